abbrev H_X7_checkPool_2 (K : Cx) (g : Gw) (ret : St) (a : Int32 × St) : Prop := XW K 0 0 2 (QV K g (wdM g) ret) (wdM g) a.2 2 [(0, .ref (g.1 0)), (1, .int a.1)] []
abbrev E_X7_checkPool_2 (K : Cx) (g : Gw) (ret : St) (q : (St) ⊕ (St)) : Prop := Sum.elim (fun q => q = ret) (fun q => XW K 0 0 2 (QV K g (wdM g) ret) (wdM g) q 37 [(0, .ref (g.1 0))] []) q
set_option maxRecDepth 100000 in
set_option maxHeartbeats 4000000 in
theorem w_X7_checkPool_j31_2 {K : Cx} {g : Gw} (ret : St) (X : XC K g cX7_checkPool 2 RX7 none rm_X7_checkPool) (x1 : Int32) (u : St) (r : ((St) ⊕ (St)) ⊕ (Int32 × St)) (h : f_X7_checkPool_j31_2 x1 u = some r) (k0 : ∀ q, r = .inl q → E_X7_checkPool_2 K g ret q) (k1 : ∀ q, r = .inr q → H_X7_checkPool_2 K g ret q) : XW K 0 0 2 (QV K g (wdM g) ret) (wdM g) u 31 [(0, .ref (g.1 0)), (1, .int x1)] [] := by
  unfold f_X7_checkPool_j31_2 at h
  refine x_iinc (v := (x1 + 1)) (lv2 := [(1, .int (x1 + 1)), (0, .ref (g.1 0))]) X dX7_checkPool_31 1 rfl rfl (by decide) rfl ?_
  refine x_goto (tgt := 2) X dX7_checkPool_34 (by decide) ?_
  refine x_sub [1, 0] rfl ?_
  have h9 := k1 _ (Option.some.inj h).symm
  exact h9
set_option maxRecDepth 100000 in
set_option maxHeartbeats 4000000 in
theorem w_X7_checkPool_b2 {K : Cx} {g : Gw} (ret : St) (X : XC K g cX7_checkPool 2 RX7 none rm_X7_checkPool) (a : Int32 × St) (r : ((St) ⊕ (St)) ⊕ (Int32 × St)) (h : f_X7_checkPool_b2 a = some r) (k0 : ∀ q, r = .inl q → E_X7_checkPool_2 K g ret q) (k1 : ∀ q, r = .inr q → H_X7_checkPool_2 K g ret q) : H_X7_checkPool_2 K g ret a := by
  unfold f_X7_checkPool_b2 at h
  show XW K 0 0 2 (QV K g (wdM g) ret) (wdM g) a.2 2 [(0, .ref (g.1 0)), (1, .int a.1)] []
  refine x_iload_n X dX7_checkPool_2 rfl 1 rfl ?_
  refine x_aload_n X dX7_checkPool_3 rfl 0 rfl ?_
  refine x_get (v := .int (a.2 9 0)) X 0 16 in_X7 rfl rfl (by decide) m_X7_98 rfl dX7_checkPool_4 ?_
  refine x_icmp_ge (tgt := 37) X dX7_checkPool_7 (by decide) (fun c1 => ?_) (fun c1 => ?_)
  · replace h := if_t c1 h
    refine x_sub [0] rfl ?_
    have h9 := k0 _ (Option.some.inj h).symm
    exact h9
  · replace h := if_f c1 h
    refine x_aload_n X dX7_checkPool_10 rfl 0 rfl ?_
    refine x_iload_n X dX7_checkPool_11 rfl 1 rfl ?_
    obtain ⟨q2, e2, h⟩ := bd h
    refine x_callR X [.int a.1] [] (c_X7_names K.l K.D g a.1 a.2 q2 e2) ok_X7_names m_X7_146 0 rfl rfl rfl rfl (Nat.le_of_ble_eq_true rfl) ⟨Nat.zero_le _, Nat.zero_le _⟩ ⟨rfl, rfl, by decide, by decide⟩ dX7_checkPool_12 ?_
    refine x_if_ne (tgt := 31) X dX7_checkPool_15 (by decide) (fun c3 => ?_) (fun c3 => ?_)
    · replace h := if_f c3 h
      exact w_X7_checkPool_j31_2 ret X a.1 a.2 r h k0 k1
    · replace h := if_t c3 h
      refine x_aload_n X dX7_checkPool_18 rfl 0 rfl ?_
      refine x_bipush (v := 8) X dX7_checkPool_19 (by decide) ?_
      refine x_aload_n X dX7_checkPool_21 rfl 0 rfl ?_
      refine x_get (v := .ref (g.1 5)) X 0 13 in_X7 rfl rfl (by decide) m_X7_22 rfl dX7_checkPool_22 ?_
      refine x_iload_n X dX7_checkPool_25 rfl 1 rfl ?_
      obtain ⟨i4, h⟩ := chk_some h
      refine x_iald (f := (a.2 34)) X 5 0 rfl rfl i4 dX7_checkPool_26 ?_
      obtain ⟨q5, e5, h⟩ := bd h
      refine x_callI X [.int 8, .int ((a.2 34) (Int32.toNatClampNeg a.1))] [] (c_X7_fail K.l K.D g 8 ((a.2 34) (Int32.toNatClampNeg a.1)) a.2 q5 e5) ok_X7_fail m_X7_89 0 rfl rfl rfl rfl (Nat.le_of_ble_eq_true rfl) ⟨Nat.zero_le _, Nat.zero_le _⟩ ⟨rfl, rfl, by decide, by decide⟩ dX7_checkPool_27 ?_
      refine x_pop X dX7_checkPool_30 rfl ?_
      exact w_X7_checkPool_j31_2 ret X a.1 q5.2 r h k0 k1
abbrev H_X7_checkPool_39 (K : Cx) (g : Gw) (ret : St) (a : Int32 × St) : Prop := XW K 0 0 2 (QV K g (wdM g) ret) (wdM g) a.2 39 [(0, .ref (g.1 0)), (1, .int a.1)] []
abbrev E_X7_checkPool_39 (K : Cx) (g : Gw) (ret : St) (q : (St) ⊕ (St)) : Prop := Sum.elim (fun q => q = ret) (fun q => XW K 0 0 2 (QV K g (wdM g) ret) (wdM g) q 183 [] []) q
set_option maxRecDepth 100000 in
set_option maxHeartbeats 4000000 in
theorem w_X7_checkPool_j177_39 {K : Cx} {g : Gw} (ret : St) (X : XC K g cX7_checkPool 2 RX7 none rm_X7_checkPool) (x1 : Int32) (u : St) (r : ((St) ⊕ (St)) ⊕ (Int32 × St)) (h : f_X7_checkPool_j177_39 x1 u = some r) (k0 : ∀ q, r = .inl q → E_X7_checkPool_39 K g ret q) (k1 : ∀ q, r = .inr q → H_X7_checkPool_39 K g ret q) : XW K 0 0 2 (QV K g (wdM g) ret) (wdM g) u 177 [(0, .ref (g.1 0)), (1, .int x1)] [] := by
  unfold f_X7_checkPool_j177_39 at h
  refine x_iinc (v := (x1 + 1)) (lv2 := [(1, .int (x1 + 1)), (0, .ref (g.1 0))]) X dX7_checkPool_177 1 rfl rfl (by decide) rfl ?_
  refine x_goto (tgt := 39) X dX7_checkPool_180 (by decide) ?_
  refine x_sub [1, 0] rfl ?_
  have h9 := k1 _ (Option.some.inj h).symm
  exact h9
set_option maxRecDepth 100000 in
set_option maxHeartbeats 4000000 in
theorem w_X7_checkPool_j140_39 {K : Cx} {g : Gw} (ret : St) (X : XC K g cX7_checkPool 2 RX7 none rm_X7_checkPool) (x1 : Int32) (u : St) (r : ((St) ⊕ (St)) ⊕ (Int32 × St)) (h : f_X7_checkPool_j140_39 x1 u = some r) (k0 : ∀ q, r = .inl q → E_X7_checkPool_39 K g ret q) (k1 : ∀ q, r = .inr q → H_X7_checkPool_39 K g ret q) : XW K 0 0 2 (QV K g (wdM g) ret) (wdM g) u 140 [(0, .ref (g.1 0)), (1, .int x1)] [] := by
  unfold f_X7_checkPool_j140_39 at h
  refine x_aload_n X dX7_checkPool_140 rfl 0 rfl ?_
  refine x_get (v := .ref (g.1 4)) X 0 12 in_X7 rfl rfl (by decide) m_X7_19 rfl dX7_checkPool_141 ?_
  refine x_iload_n X dX7_checkPool_144 rfl 1 rfl ?_
  obtain ⟨i13, h⟩ := chk_some h
  refine x_iald (f := (u 33)) X 4 0 rfl rfl i13 dX7_checkPool_145 ?_
  refine x_bipush (v := 12) X dX7_checkPool_146 (by decide) ?_
  refine x_icmp_ne (tgt := 177) X dX7_checkPool_148 (by decide) (fun c14 => ?_) (fun c14 => ?_)
  · replace h := if_f c14 h
    exact w_X7_checkPool_j177_39 ret X x1 u r h k0 k1
  · replace h := if_t c14 h
    refine x_aload_n X dX7_checkPool_151 rfl 0 rfl ?_
    refine x_aload_n X dX7_checkPool_152 rfl 0 rfl ?_
    refine x_get (v := .ref (g.1 7)) X 0 15 in_X7 rfl rfl (by decide) m_X7_28 rfl dX7_checkPool_153 ?_
    refine x_iload_n X dX7_checkPool_156 rfl 1 rfl ?_
    obtain ⟨i15, h⟩ := chk_some h
    refine x_iald (f := (u 36)) X 7 0 rfl rfl i15 dX7_checkPool_157 ?_
    obtain ⟨q16, e16, h⟩ := bd h
    refine x_callR X [.int ((u 36) (Int32.toNatClampNeg x1))] [] (c_X7_methodType K.l K.D g ((u 36) (Int32.toNatClampNeg x1)) u q16 e16) ok_X7_methodType m_X7_151 0 rfl rfl rfl rfl (Nat.le_of_ble_eq_true rfl) ⟨Nat.zero_le _, Nat.zero_le _⟩ ⟨rfl, rfl, by decide, by decide⟩ dX7_checkPool_158 ?_
    refine x_if_ne (tgt := 177) X dX7_checkPool_161 (by decide) (fun c17 => ?_) (fun c17 => ?_)
    · replace h := if_f c17 h
      exact w_X7_checkPool_j177_39 ret X x1 u r h k0 k1
    · replace h := if_t c17 h
      refine x_aload_n X dX7_checkPool_164 rfl 0 rfl ?_
      refine x_bipush (v := 10) X dX7_checkPool_165 (by decide) ?_
      refine x_aload_n X dX7_checkPool_167 rfl 0 rfl ?_
      refine x_get (v := .ref (g.1 5)) X 0 13 in_X7 rfl rfl (by decide) m_X7_22 rfl dX7_checkPool_168 ?_
      refine x_iload_n X dX7_checkPool_171 rfl 1 rfl ?_
      obtain ⟨i18, h⟩ := chk_some h
      refine x_iald (f := (u 34)) X 5 0 rfl rfl i18 dX7_checkPool_172 ?_
      obtain ⟨q19, e19, h⟩ := bd h
      refine x_callI X [.int 10, .int ((u 34) (Int32.toNatClampNeg x1))] [] (c_X7_fail K.l K.D g 10 ((u 34) (Int32.toNatClampNeg x1)) u q19 e19) ok_X7_fail m_X7_89 0 rfl rfl rfl rfl (Nat.le_of_ble_eq_true rfl) ⟨Nat.zero_le _, Nat.zero_le _⟩ ⟨rfl, rfl, by decide, by decide⟩ dX7_checkPool_173 ?_
      refine x_pop X dX7_checkPool_176 rfl ?_
      exact w_X7_checkPool_j177_39 ret X x1 q19.2 r h k0 k1
set_option maxRecDepth 100000 in
set_option maxHeartbeats 4000000 in
theorem w_X7_checkPool_j103_39 {K : Cx} {g : Gw} (ret : St) (X : XC K g cX7_checkPool 2 RX7 none rm_X7_checkPool) (x1 : Int32) (u : St) (r : ((St) ⊕ (St)) ⊕ (Int32 × St)) (h : f_X7_checkPool_j103_39 x1 u = some r) (k0 : ∀ q, r = .inl q → E_X7_checkPool_39 K g ret q) (k1 : ∀ q, r = .inr q → H_X7_checkPool_39 K g ret q) : XW K 0 0 2 (QV K g (wdM g) ret) (wdM g) u 103 [(0, .ref (g.1 0)), (1, .int x1)] [] := by
  unfold f_X7_checkPool_j103_39 at h
  refine x_aload_n X dX7_checkPool_103 rfl 0 rfl ?_
  refine x_get (v := .ref (g.1 4)) X 0 12 in_X7 rfl rfl (by decide) m_X7_19 rfl dX7_checkPool_104 ?_
  refine x_iload_n X dX7_checkPool_107 rfl 1 rfl ?_
  obtain ⟨i11, h⟩ := chk_some h
  refine x_iald (f := (u 33)) X 4 0 rfl rfl i11 dX7_checkPool_108 ?_
  refine x_bipush (v := 12) X dX7_checkPool_109 (by decide) ?_
  refine x_icmp_ne (tgt := 140) X dX7_checkPool_111 (by decide) (fun c12 => ?_) (fun c12 => ?_)
  · replace h := if_f c12 h
    exact w_X7_checkPool_j140_39 ret X x1 u r h k0 k1
  · replace h := if_t c12 h
    refine x_aload_n X dX7_checkPool_114 rfl 0 rfl ?_
    refine x_aload_n X dX7_checkPool_115 rfl 0 rfl ?_
    refine x_get (v := .ref (g.1 6)) X 0 14 in_X7 rfl rfl (by decide) m_X7_25 rfl dX7_checkPool_116 ?_
    refine x_iload_n X dX7_checkPool_119 rfl 1 rfl ?_
    obtain ⟨i20, h⟩ := chk_some h
    refine x_iald (f := (u 35)) X 6 0 rfl rfl i20 dX7_checkPool_120 ?_
    obtain ⟨q21, e21, h⟩ := bd h
    refine x_callR X [.int ((u 35) (Int32.toNatClampNeg x1))] [] (c_X7_memberName K.l K.D g ((u 35) (Int32.toNatClampNeg x1)) u q21 e21) ok_X7_memberName m_X7_148 0 rfl rfl rfl rfl (Nat.le_of_ble_eq_true rfl) ⟨Nat.zero_le _, Nat.zero_le _⟩ ⟨rfl, rfl, by decide, by decide⟩ dX7_checkPool_121 ?_
    refine x_if_ne (tgt := 140) X dX7_checkPool_124 (by decide) (fun c22 => ?_) (fun c22 => ?_)
    · replace h := if_f c22 h
      exact w_X7_checkPool_j140_39 ret X x1 u r h k0 k1
    · replace h := if_t c22 h
      refine x_aload_n X dX7_checkPool_127 rfl 0 rfl ?_
      refine x_bipush (v := 9) X dX7_checkPool_128 (by decide) ?_
      refine x_aload_n X dX7_checkPool_130 rfl 0 rfl ?_
      refine x_get (v := .ref (g.1 5)) X 0 13 in_X7 rfl rfl (by decide) m_X7_22 rfl dX7_checkPool_131 ?_
      refine x_iload_n X dX7_checkPool_134 rfl 1 rfl ?_
      obtain ⟨i23, h⟩ := chk_some h
      refine x_iald (f := (u 34)) X 5 0 rfl rfl i23 dX7_checkPool_135 ?_
      obtain ⟨q24, e24, h⟩ := bd h
      refine x_callI X [.int 9, .int ((u 34) (Int32.toNatClampNeg x1))] [] (c_X7_fail K.l K.D g 9 ((u 34) (Int32.toNatClampNeg x1)) u q24 e24) ok_X7_fail m_X7_89 0 rfl rfl rfl rfl (Nat.le_of_ble_eq_true rfl) ⟨Nat.zero_le _, Nat.zero_le _⟩ ⟨rfl, rfl, by decide, by decide⟩ dX7_checkPool_136 ?_
      refine x_pop X dX7_checkPool_139 rfl ?_
      exact w_X7_checkPool_j140_39 ret X x1 q24.2 r h k0 k1
set_option maxRecDepth 100000 in
set_option maxHeartbeats 4000000 in
theorem w_X7_checkPool_b39 {K : Cx} {g : Gw} (ret : St) (X : XC K g cX7_checkPool 2 RX7 none rm_X7_checkPool) (a : Int32 × St) (r : ((St) ⊕ (St)) ⊕ (Int32 × St)) (h : f_X7_checkPool_b39 a = some r) (k0 : ∀ q, r = .inl q → E_X7_checkPool_39 K g ret q) (k1 : ∀ q, r = .inr q → H_X7_checkPool_39 K g ret q) : H_X7_checkPool_39 K g ret a := by
  unfold f_X7_checkPool_b39 at h
  show XW K 0 0 2 (QV K g (wdM g) ret) (wdM g) a.2 39 [(0, .ref (g.1 0)), (1, .int a.1)] []
  refine x_iload_n X dX7_checkPool_39 rfl 1 rfl ?_
  refine x_aload_n X dX7_checkPool_40 rfl 0 rfl ?_
  refine x_get (v := .int (a.2 9 0)) X 0 16 in_X7 rfl rfl (by decide) m_X7_98 rfl dX7_checkPool_41 ?_
  refine x_icmp_ge (tgt := 183) X dX7_checkPool_44 (by decide) (fun c7 => ?_) (fun c7 => ?_)
  · replace h := if_t c7 h
    refine x_sub [] rfl ?_
    have h9 := k0 _ (Option.some.inj h).symm
    exact h9
  · replace h := if_f c7 h
    refine x_aload_n X dX7_checkPool_47 rfl 0 rfl ?_
    refine x_get (v := .int (a.2 7 0)) X 0 9 in_X7 rfl rfl (by decide) m_X7_71 rfl dX7_checkPool_48 ?_
    refine x_if_ne (tgt := 183) X dX7_checkPool_51 (by decide) (fun c8 => ?_) (fun c8 => ?_)
    · replace h := if_f c8 h
      refine x_sub [] rfl ?_
      have h9 := k0 _ (Option.some.inj h).symm
      exact h9
    · replace h := if_t c8 h
      refine x_aload_n X dX7_checkPool_54 rfl 0 rfl ?_
      refine x_get (v := .ref (g.1 4)) X 0 12 in_X7 rfl rfl (by decide) m_X7_19 rfl dX7_checkPool_55 ?_
      refine x_iload_n X dX7_checkPool_58 rfl 1 rfl ?_
      obtain ⟨i9, h⟩ := chk_some h
      refine x_iald (f := (a.2 33)) X 4 0 rfl rfl i9 dX7_checkPool_59 ?_
      refine x_bipush (v := 7) X dX7_checkPool_60 (by decide) ?_
      refine x_icmp_ne (tgt := 103) X dX7_checkPool_62 (by decide) (fun c10 => ?_) (fun c10 => ?_)
      · replace h := if_f c10 h
        exact w_X7_checkPool_j103_39 ret X a.1 a.2 r h k0 k1
      · replace h := if_t c10 h
        refine x_aload_n X dX7_checkPool_65 rfl 0 rfl ?_
        refine x_aload_n X dX7_checkPool_66 rfl 0 rfl ?_
        refine x_get (v := .ref (g.1 6)) X 0 14 in_X7 rfl rfl (by decide) m_X7_25 rfl dX7_checkPool_67 ?_
        refine x_iload_n X dX7_checkPool_70 rfl 1 rfl ?_
        obtain ⟨i25, h⟩ := chk_some h
        refine x_iald (f := (a.2 35)) X 6 0 rfl rfl i25 dX7_checkPool_71 ?_
        refine x_iconst (v := 0) X dX7_checkPool_72 (by decide) ?_
        refine x_aload_n X dX7_checkPool_73 rfl 0 rfl ?_
        refine x_get (v := .ref (g.1 7)) X 0 15 in_X7 rfl rfl (by decide) m_X7_28 rfl dX7_checkPool_74 ?_
        refine x_aload_n X dX7_checkPool_77 rfl 0 rfl ?_
        refine x_get (v := .ref (g.1 6)) X 0 14 in_X7 rfl rfl (by decide) m_X7_25 rfl dX7_checkPool_78 ?_
        refine x_iload_n X dX7_checkPool_81 rfl 1 rfl ?_
        obtain ⟨i26, h⟩ := chk_some h
        refine x_iald (f := (a.2 35)) X 6 0 rfl rfl i26 dX7_checkPool_82 ?_
        obtain ⟨i27, h⟩ := chk_some h
        refine x_iald (f := (a.2 36)) X 7 0 rfl rfl i27 dX7_checkPool_83 ?_
        obtain ⟨q28, e28, h⟩ := bd h
        refine x_callR X [.int ((a.2 35) (Int32.toNatClampNeg a.1)), .int 0, .int ((a.2 36) (Int32.toNatClampNeg ((a.2 35) (Int32.toNatClampNeg a.1))))] [] (c_X7_className K.l K.D g ((a.2 35) (Int32.toNatClampNeg a.1)) 0 ((a.2 36) (Int32.toNatClampNeg ((a.2 35) (Int32.toNatClampNeg a.1)))) a.2 q28 e28) ok_X7_className m_X7_119 0 rfl rfl rfl rfl (Nat.le_of_ble_eq_true rfl) ⟨Nat.zero_le _, Nat.zero_le _⟩ ⟨rfl, rfl, by decide, by decide⟩ dX7_checkPool_84 ?_
        refine x_if_ne (tgt := 103) X dX7_checkPool_87 (by decide) (fun c29 => ?_) (fun c29 => ?_)
        · replace h := if_f c29 h
          exact w_X7_checkPool_j103_39 ret X a.1 a.2 r h k0 k1
        · replace h := if_t c29 h
          refine x_aload_n X dX7_checkPool_90 rfl 0 rfl ?_
          refine x_bipush (v := 9) X dX7_checkPool_91 (by decide) ?_
          refine x_aload_n X dX7_checkPool_93 rfl 0 rfl ?_
          refine x_get (v := .ref (g.1 5)) X 0 13 in_X7 rfl rfl (by decide) m_X7_22 rfl dX7_checkPool_94 ?_
          refine x_iload_n X dX7_checkPool_97 rfl 1 rfl ?_
          obtain ⟨i30, h⟩ := chk_some h
          refine x_iald (f := (a.2 34)) X 5 0 rfl rfl i30 dX7_checkPool_98 ?_
          obtain ⟨q31, e31, h⟩ := bd h
          refine x_callI X [.int 9, .int ((a.2 34) (Int32.toNatClampNeg a.1))] [] (c_X7_fail K.l K.D g 9 ((a.2 34) (Int32.toNatClampNeg a.1)) a.2 q31 e31) ok_X7_fail m_X7_89 0 rfl rfl rfl rfl (Nat.le_of_ble_eq_true rfl) ⟨Nat.zero_le _, Nat.zero_le _⟩ ⟨rfl, rfl, by decide, by decide⟩ dX7_checkPool_99 ?_
          refine x_pop X dX7_checkPool_102 rfl ?_
          exact w_X7_checkPool_j103_39 ret X a.1 q31.2 r h k0 k1
set_option maxRecDepth 100000 in
set_option maxHeartbeats 4000000 in
theorem w_X7_checkPool_j183 {K : Cx} {g : Gw} (ret : St) (X : XC K g cX7_checkPool 2 RX7 none rm_X7_checkPool) (u : St) (h : f_X7_checkPool_j183 u = some ret) : XW K 0 0 2 (QV K g (wdM g) ret) (wdM g) u 183 [] [] := by
  unfold f_X7_checkPool_j183 at h
  exact x_vret X (Option.some.inj h) dX7_checkPool_183
set_option maxRecDepth 100000 in
set_option maxHeartbeats 4000000 in
theorem c_X7_checkPool (l : Launch) (D : va_G) (g : Gw) (u : St) (ret : St) (h : f_X7_checkPool u = some ret) : metV l D g (wdM g) yX7_checkPool cX7_checkPool 2 rm_X7_checkPool [.ref (g.1 0)] u ret := by
  refine metV_of (own := RX7) (lv := [(0, .ref (g.1 0))]) (by decide) rfl rfl (Nat.le_of_ble_eq_true rfl) (fun K hl9 hD9 X => ?_)
  subst hl9
  subst hD9
  unfold f_X7_checkPool at h
  refine x_iconst (v := 1) X dX7_checkPool_0 (by decide) ?_
  refine x_istore_n (lv2 := [(1, .int 1), (0, .ref (g.1 0))]) X dX7_checkPool_1 rfl (by decide) rfl ?_
  refine x_sub [1, 0] rfl ?_
  obtain ⟨q60, e6, h⟩ := bd h
  refine loopF_w (WH := H_X7_checkPool_2 K g ret) (KB := E_X7_checkPool_2 K g ret) (fun a9 r9 h9 k8 k7 => w_X7_checkPool_b2 ret X a9 r9 h9 k8 k7) FU (1, u) q60 e6 ?_
  rcases q60 with q6 | q6
  · replace h := sl h
    exact (Option.some.inj h)
  · replace h := sr h
    show XW K 0 0 2 (QV K g (wdM g) ret) (wdM g) q6 37 [(0, .ref (g.1 0))] []
    refine x_iconst (v := 1) X dX7_checkPool_37 (by decide) ?_
    refine x_istore_n (lv2 := [(1, .int 1), (0, .ref (g.1 0))]) X dX7_checkPool_38 rfl (by decide) rfl ?_
    refine x_sub [1, 0] rfl ?_
    obtain ⟨q320, e32, h⟩ := bd h
    refine loopF_w (WH := H_X7_checkPool_39 K g ret) (KB := E_X7_checkPool_39 K g ret) (fun a9 r9 h9 k8 k7 => w_X7_checkPool_b39 ret X a9 r9 h9 k8 k7) FU (1, q6) q320 e32 ?_
    rcases q320 with q32 | q32
    · replace h := sl h
      exact (Option.some.inj h)
    · replace h := sr h
      show XW K 0 0 2 (QV K g (wdM g) ret) (wdM g) q32 183 [] []
      exact w_X7_checkPool_j183 ret X q32 h
set_option maxRecDepth 100000 in
set_option maxHeartbeats 4000000 in
theorem w_X7_classAt_j35 {K : Cx} {g : Gw} (ret : St) (X : XC K g cX7_classAt 3 RX7 none rm_X7_classAt) (u : St) (h : f_X7_classAt_j35 u = some ret) : XW K 0 0 3 (QV K g (wdM g) ret) (wdM g) u 35 [] [] := by
  unfold f_X7_classAt_j35 at h
  exact x_vret X (Option.some.inj h) dX7_classAt_35
set_option maxRecDepth 100000 in
set_option maxHeartbeats 4000000 in
theorem c_X7_classAt (l : Launch) (D : va_G) (g : Gw) (u : St) (ret : St) (h : f_X7_classAt u = some ret) : metV l D g (wdM g) yX7_classAt cX7_classAt 3 rm_X7_classAt [.ref (g.1 0)] u ret := by
  refine metV_of (own := RX7) (lv := [(0, .ref (g.1 0))]) (by decide) rfl rfl (Nat.le_of_ble_eq_true rfl) (fun K hl9 hD9 X => ?_)
  subst hl9
  subst hD9
  unfold f_X7_classAt at h
  refine x_aload_n X dX7_classAt_0 rfl 0 rfl ?_
  refine x_get (v := .int (u 3 0)) X 0 5 in_X7 rfl rfl (by decide) m_X7_77 rfl dX7_classAt_1 ?_
  refine x_istore_n (lv2 := [(1, .int (u 3 0)), (0, .ref (g.1 0))]) X dX7_classAt_4 rfl (by decide) rfl ?_
  refine x_aload_n X dX7_classAt_5 rfl 1 rfl ?_
  obtain ⟨q1, e1, h⟩ := bd h
  refine x_callI X [] [] (c_X7_u2 K.l K.D g u q1 e1) ok_X7_u2 m_X7_130 0 rfl rfl rfl rfl (Nat.le_of_ble_eq_true rfl) ⟨Nat.zero_le _, Nat.zero_le _⟩ ⟨rfl, rfl, by decide, by decide⟩ dX7_classAt_6 ?_
  refine x_istore_n (lv2 := [(2, .int q1.1), (1, .int (u 3 0)), (0, .ref (g.1 0))]) X dX7_classAt_9 rfl (by decide) rfl ?_
  refine x_aload_n X dX7_classAt_10 rfl 2 rfl ?_
  refine x_get (v := .int (q1.2 7 0)) X 0 9 in_X7 rfl rfl (by decide) m_X7_71 rfl dX7_classAt_11 ?_
  refine x_if_ne (tgt := 35) X dX7_classAt_14 (by decide) (fun c2 => ?_) (fun c2 => ?_)
  · replace h := if_f c2 h
    refine x_sub [] rfl ?_
    exact w_X7_classAt_j35 ret X q1.2 h
  · replace h := if_t c2 h
    refine x_aload_n X dX7_classAt_17 rfl 2 rfl ?_
    refine x_iload_n X dX7_classAt_18 rfl 0 rfl ?_
    refine x_bipush (v := 7) X dX7_classAt_19 (by decide) ?_
    obtain ⟨q3, e3, h⟩ := bd h
    refine x_callR X [.int q1.1, .int 7] [] (c_X7_is K.l K.D g q1.1 7 q1.2 q3 e3) ok_X7_is m_X7_143 0 rfl rfl rfl rfl (Nat.le_of_ble_eq_true rfl) ⟨Nat.zero_le _, Nat.zero_le _⟩ ⟨rfl, rfl, by decide, by decide⟩ dX7_classAt_21 ?_
    refine x_if_ne (tgt := 35) X dX7_classAt_24 (by decide) (fun c4 => ?_) (fun c4 => ?_)
    · replace h := if_f c4 h
      refine x_sub [] rfl ?_
      exact w_X7_classAt_j35 ret X q1.2 h
    · replace h := if_t c4 h
      refine x_aload_n X dX7_classAt_27 rfl 2 rfl ?_
      refine x_bipush (v := 12) X dX7_classAt_28 (by decide) ?_
      refine x_iload_n X dX7_classAt_30 rfl 1 rfl ?_
      obtain ⟨q5, e5, h⟩ := bd h
      refine x_callI X [.int 12, .int (u 3 0)] [] (c_X7_fail K.l K.D g 12 (u 3 0) q1.2 q5 e5) ok_X7_fail m_X7_89 0 rfl rfl rfl rfl (Nat.le_of_ble_eq_true rfl) ⟨Nat.zero_le _, Nat.zero_le _⟩ ⟨rfl, rfl, by decide, by decide⟩ dX7_classAt_31 ?_
      refine x_pop X dX7_classAt_34 rfl ?_
      refine x_sub [] rfl ?_
      exact w_X7_classAt_j35 ret X q5.2 h
abbrev H_X7_interfaces_7 (x1 : Int32) (K : Cx) (g : Gw) (ret : St) (a : Int32 × St) : Prop := XW K 0 0 6 (QV K g (wdM g) ret) (wdM g) a.2 7 [(0, .ref (g.1 0)), (1, .int x1), (2, .int a.1)] []
abbrev E_X7_interfaces_7 (x1 : Int32) (K : Cx) (g : Gw) (ret : St) (q : (St) ⊕ (St)) : Prop := Sum.elim (fun q => q = ret) (fun q => XW K 0 0 6 (QV K g (wdM g) ret) (wdM g) q 119 [] []) q
abbrev H_X7_interfaces_59 (x1 : Int32) (x2 : Int32) (x3 : Int32) (x4 : Int32) (K : Cx) (g : Gw) (ret : St) (a : Int32 × St) : Prop := XW K 0 0 6 (QV K g (wdM g) ret) (wdM g) a.2 59 [(0, .ref (g.1 0)), (1, .int x1), (2, .int x2), (3, .int x3), (4, .int x4), (5, .int a.1)] []
abbrev E_X7_interfaces_59 (x1 : Int32) (x2 : Int32) (x3 : Int32) (x4 : Int32) (K : Cx) (g : Gw) (ret : St) (q : (St) ⊕ (St)) : Prop := Sum.elim (fun q => q = ret) (fun q => XW K 0 0 6 (QV K g (wdM g) ret) (wdM g) q 98 [(0, .ref (g.1 0)), (1, .int x1), (2, .int x2), (4, .int x4)] []) q
set_option maxRecDepth 100000 in
set_option maxHeartbeats 4000000 in
theorem w_X7_interfaces_j92_59 {K : Cx} {g : Gw} (ret : St) (X : XC K g cX7_interfaces 6 RX7 none rm_X7_interfaces) (x1 : Int32) (x2 : Int32) (x3 : Int32) (x4 : Int32) (x5 : Int32) (u : St) (r : ((St) ⊕ (St)) ⊕ (Int32 × St)) (h : f_X7_interfaces_j92_59 x1 x2 x3 x4 x5 u = some r) (k0 : ∀ q, r = .inl q → E_X7_interfaces_59 x1 x2 x3 x4 K g ret q) (k1 : ∀ q, r = .inr q → H_X7_interfaces_59 x1 x2 x3 x4 K g ret q) : XW K 0 0 6 (QV K g (wdM g) ret) (wdM g) u 92 [(0, .ref (g.1 0)), (1, .int x1), (2, .int x2), (3, .int x3), (4, .int x4), (5, .int x5)] [] := by
  unfold f_X7_interfaces_j92_59 at h
  refine x_iinc (v := (x5 + 1)) (lv2 := [(5, .int (x5 + 1)), (0, .ref (g.1 0)), (1, .int x1), (2, .int x2), (3, .int x3), (4, .int x4)]) X dX7_interfaces_92 5 rfl rfl (by decide) rfl ?_
  refine x_goto (tgt := 59) X dX7_interfaces_95 (by decide) ?_
  refine x_sub [1, 2, 3, 4, 5, 0] rfl ?_
  have h9 := k1 _ (Option.some.inj h).symm
  exact h9
set_option maxRecDepth 100000 in
set_option maxHeartbeats 4000000 in
theorem w_X7_interfaces_b59 {K : Cx} {g : Gw} (x1 : Int32) (x2 : Int32) (x3 : Int32) (x4 : Int32) (ret : St) (X : XC K g cX7_interfaces 6 RX7 none rm_X7_interfaces) (a : Int32 × St) (r : ((St) ⊕ (St)) ⊕ (Int32 × St)) (h : f_X7_interfaces_b59 x1 x2 x3 x4 a = some r) (k0 : ∀ q, r = .inl q → E_X7_interfaces_59 x1 x2 x3 x4 K g ret q) (k1 : ∀ q, r = .inr q → H_X7_interfaces_59 x1 x2 x3 x4 K g ret q) : H_X7_interfaces_59 x1 x2 x3 x4 K g ret a := by
  unfold f_X7_interfaces_b59 at h
  show XW K 0 0 6 (QV K g (wdM g) ret) (wdM g) a.2 59 [(0, .ref (g.1 0)), (1, .int x1), (2, .int x2), (3, .int x3), (4, .int x4), (5, .int a.1)] []
  refine x_iload X dX7_interfaces_59 5 rfl ?_
  refine x_iload_n X dX7_interfaces_61 rfl 2 rfl ?_
  refine x_icmp_ge (tgt := 98) X dX7_interfaces_62 (by decide) (fun c6 => ?_) (fun c6 => ?_)
  · replace h := if_t c6 h
    refine x_sub [0, 1, 2, 4] rfl ?_
    have h9 := k0 _ (Option.some.inj h).symm
    exact h9
  · replace h := if_f c6 h
    refine x_aload_n X dX7_interfaces_65 rfl 0 rfl ?_
    refine x_get (v := .int (a.2 7 0)) X 0 9 in_X7 rfl rfl (by decide) m_X7_71 rfl dX7_interfaces_66 ?_
    refine x_if_ne (tgt := 98) X dX7_interfaces_69 (by decide) (fun c7 => ?_) (fun c7 => ?_)
    · replace h := if_f c7 h
      refine x_sub [0, 1, 2, 4] rfl ?_
      have h9 := k0 _ (Option.some.inj h).symm
      exact h9
    · replace h := if_t c7 h
      refine x_aload_n X dX7_interfaces_72 rfl 0 rfl ?_
      refine x_get (v := .ref (g.1 8)) X 0 17 in_X7 rfl rfl (by decide) m_X7_31 rfl dX7_interfaces_73 ?_
      refine x_iload X dX7_interfaces_76 5 rfl ?_
      obtain ⟨i8, h⟩ := chk_some h
      refine x_iald (f := (a.2 37)) X 8 0 rfl rfl i8 dX7_interfaces_78 ?_
      refine x_iload X dX7_interfaces_79 4 rfl ?_
      refine x_icmp_ne (tgt := 92) X dX7_interfaces_81 (by decide) (fun c9 => ?_) (fun c9 => ?_)
      · replace h := if_f c9 h
        exact w_X7_interfaces_j92_59 ret X x1 x2 x3 x4 a.1 a.2 r h k0 k1
      · replace h := if_t c9 h
        refine x_aload_n X dX7_interfaces_84 rfl 0 rfl ?_
        refine x_bipush (v := 13) X dX7_interfaces_85 (by decide) ?_
        refine x_iload_n X dX7_interfaces_87 rfl 3 rfl ?_
        obtain ⟨q10, e10, h⟩ := bd h
        refine x_callI X [.int 13, .int x3] [] (c_X7_fail K.l K.D g 13 x3 a.2 q10 e10) ok_X7_fail m_X7_89 0 rfl rfl rfl rfl (Nat.le_of_ble_eq_true rfl) ⟨Nat.zero_le _, Nat.zero_le _⟩ ⟨rfl, rfl, by decide, by decide⟩ dX7_interfaces_88 ?_
        refine x_pop X dX7_interfaces_91 rfl ?_
        exact w_X7_interfaces_j92_59 ret X x1 x2 x3 x4 a.1 q10.2 r h k0 k1
set_option maxRecDepth 100000 in
set_option maxHeartbeats 4000000 in
theorem w_X7_interfaces_j113_7 {K : Cx} {g : Gw} (ret : St) (X : XC K g cX7_interfaces 6 RX7 none rm_X7_interfaces) (x1 : Int32) (x2 : Int32) (u : St) (r : ((St) ⊕ (St)) ⊕ (Int32 × St)) (h : f_X7_interfaces_j113_7 x1 x2 u = some r) (k0 : ∀ q, r = .inl q → E_X7_interfaces_7 x1 K g ret q) (k1 : ∀ q, r = .inr q → H_X7_interfaces_7 x1 K g ret q) : XW K 0 0 6 (QV K g (wdM g) ret) (wdM g) u 113 [(0, .ref (g.1 0)), (1, .int x1), (2, .int x2)] [] := by
  unfold f_X7_interfaces_j113_7 at h
  refine x_iinc (v := (x2 + 1)) (lv2 := [(2, .int (x2 + 1)), (0, .ref (g.1 0)), (1, .int x1)]) X dX7_interfaces_113 2 rfl rfl (by decide) rfl ?_
  refine x_goto (tgt := 7) X dX7_interfaces_116 (by decide) ?_
  refine x_sub [1, 2, 0] rfl ?_
  have h9 := k1 _ (Option.some.inj h).symm
  exact h9
set_option maxRecDepth 100000 in
set_option maxHeartbeats 4000000 in
theorem w_X7_interfaces_j98_7 {K : Cx} {g : Gw} (ret : St) (X : XC K g cX7_interfaces 6 RX7 none rm_X7_interfaces) (x1 : Int32) (x2 : Int32) (x4 : Int32) (u : St) (r : ((St) ⊕ (St)) ⊕ (Int32 × St)) (h : f_X7_interfaces_j98_7 x1 x2 x4 u = some r) (k0 : ∀ q, r = .inl q → E_X7_interfaces_7 x1 K g ret q) (k1 : ∀ q, r = .inr q → H_X7_interfaces_7 x1 K g ret q) : XW K 0 0 6 (QV K g (wdM g) ret) (wdM g) u 98 [(0, .ref (g.1 0)), (1, .int x1), (2, .int x2), (4, .int x4)] [] := by
  unfold f_X7_interfaces_j98_7 at h
  refine x_iload_n X dX7_interfaces_98 rfl 2 rfl ?_
  refine x_sipush (v := 200) X dX7_interfaces_99 (by decide) ?_
  refine x_icmp_ge (tgt := 113) X dX7_interfaces_102 (by decide) (fun c12 => ?_) (fun c12 => ?_)
  · replace h := if_t c12 h
    refine x_sub [0, 1, 2] rfl ?_
    exact w_X7_interfaces_j113_7 ret X x1 x2 u r h k0 k1
  · replace h := if_f c12 h
    refine x_aload_n X dX7_interfaces_105 rfl 0 rfl ?_
    refine x_get (v := .ref (g.1 8)) X 0 17 in_X7 rfl rfl (by decide) m_X7_31 rfl dX7_interfaces_106 ?_
    refine x_iload_n X dX7_interfaces_109 rfl 2 rfl ?_
    refine x_iload X dX7_interfaces_110 3 rfl ?_
    obtain ⟨i13, h⟩ := chk_some h
    refine x_iast (f := (u 37)) (u2 := (up u 37 (Int32.toNatClampNeg x2) x4)) X 8 0 rfl rfl i13 (wdM_37 g u (Int32.toNatClampNeg x2) x4) dX7_interfaces_112 ?_
    refine x_sub [0, 1, 2] rfl ?_
    exact w_X7_interfaces_j113_7 ret X x1 x2 (up u 37 (Int32.toNatClampNeg x2) x4) r h k0 k1
set_option maxRecDepth 100000 in
set_option maxHeartbeats 4000000 in
theorem w_X7_interfaces_j56_7 {K : Cx} {g : Gw} (ret : St) (X : XC K g cX7_interfaces 6 RX7 none rm_X7_interfaces) (x1 : Int32) (x2 : Int32) (x3 : Int32) (x4 : Int32) (u : St) (r : ((St) ⊕ (St)) ⊕ (Int32 × St)) (h : f_X7_interfaces_j56_7 x1 x2 x3 x4 u = some r) (k0 : ∀ q, r = .inl q → E_X7_interfaces_7 x1 K g ret q) (k1 : ∀ q, r = .inr q → H_X7_interfaces_7 x1 K g ret q) : XW K 0 0 6 (QV K g (wdM g) ret) (wdM g) u 56 [(0, .ref (g.1 0)), (1, .int x1), (2, .int x2), (3, .int x3), (4, .int x4)] [] := by
  unfold f_X7_interfaces_j56_7 at h
  refine x_iconst (v := 0) X dX7_interfaces_56 (by decide) ?_
  refine x_istore (lv2 := [(5, .int 0), (0, .ref (g.1 0)), (1, .int x1), (2, .int x2), (3, .int x3), (4, .int x4)]) X dX7_interfaces_57 (by decide) rfl ?_
  refine x_sub [1, 2, 3, 4, 5, 0] rfl ?_
  obtain ⟨q110, e11, h⟩ := bd h
  refine loopF_w (WH := H_X7_interfaces_59 x1 x2 x3 x4 K g ret) (KB := E_X7_interfaces_59 x1 x2 x3 x4 K g ret) (fun a9 r9 h9 k8 k7 => w_X7_interfaces_b59 x1 x2 x3 x4 ret X a9 r9 h9 k8 k7) FU (0, u) q110 e11 ?_
  rcases q110 with q11 | q11
  · replace h := sl h
    exact (k0 _ (Option.some.inj h).symm)
  · replace h := sr h
    show XW K 0 0 6 (QV K g (wdM g) ret) (wdM g) q11 98 [(0, .ref (g.1 0)), (1, .int x1), (2, .int x2), (4, .int x4)] []
    exact w_X7_interfaces_j98_7 ret X x1 x2 x4 q11 r h k0 k1
set_option maxRecDepth 100000 in
set_option maxHeartbeats 4000000 in
theorem w_X7_interfaces_b7 {K : Cx} {g : Gw} (x1 : Int32) (ret : St) (X : XC K g cX7_interfaces 6 RX7 none rm_X7_interfaces) (a : Int32 × St) (r : ((St) ⊕ (St)) ⊕ (Int32 × St)) (h : f_X7_interfaces_b7 x1 a = some r) (k0 : ∀ q, r = .inl q → E_X7_interfaces_7 x1 K g ret q) (k1 : ∀ q, r = .inr q → H_X7_interfaces_7 x1 K g ret q) : H_X7_interfaces_7 x1 K g ret a := by
  unfold f_X7_interfaces_b7 at h
  show XW K 0 0 6 (QV K g (wdM g) ret) (wdM g) a.2 7 [(0, .ref (g.1 0)), (1, .int x1), (2, .int a.1)] []
  refine x_iload_n X dX7_interfaces_7 rfl 2 rfl ?_
  refine x_iload_n X dX7_interfaces_8 rfl 1 rfl ?_
  refine x_icmp_ge (tgt := 119) X dX7_interfaces_9 (by decide) (fun c2 => ?_) (fun c2 => ?_)
  · replace h := if_t c2 h
    refine x_sub [] rfl ?_
    have h9 := k0 _ (Option.some.inj h).symm
    exact h9
  · replace h := if_f c2 h
    refine x_aload_n X dX7_interfaces_12 rfl 0 rfl ?_
    refine x_get (v := .int (a.2 7 0)) X 0 9 in_X7 rfl rfl (by decide) m_X7_71 rfl dX7_interfaces_13 ?_
    refine x_if_ne (tgt := 119) X dX7_interfaces_16 (by decide) (fun c3 => ?_) (fun c3 => ?_)
    · replace h := if_f c3 h
      refine x_sub [] rfl ?_
      have h9 := k0 _ (Option.some.inj h).symm
      exact h9
    · replace h := if_t c3 h
      refine x_aload_n X dX7_interfaces_19 rfl 0 rfl ?_
      refine x_get (v := .int (a.2 3 0)) X 0 5 in_X7 rfl rfl (by decide) m_X7_77 rfl dX7_interfaces_20 ?_
      refine x_istore_n (lv2 := [(3, .int (a.2 3 0)), (0, .ref (g.1 0)), (1, .int x1), (2, .int a.1)]) X dX7_interfaces_23 rfl (by decide) rfl ?_
      refine x_aload_n X dX7_interfaces_24 rfl 1 rfl ?_
      obtain ⟨q4, e4, h⟩ := bd h
      refine x_callI X [] [] (c_X7_u2 K.l K.D g a.2 q4 e4) ok_X7_u2 m_X7_130 0 rfl rfl rfl rfl (Nat.le_of_ble_eq_true rfl) ⟨Nat.zero_le _, Nat.zero_le _⟩ ⟨rfl, rfl, by decide, by decide⟩ dX7_interfaces_25 ?_
      refine x_istore (lv2 := [(4, .int q4.1), (3, .int (a.2 3 0)), (0, .ref (g.1 0)), (1, .int x1), (2, .int a.1)]) X dX7_interfaces_28 (by decide) rfl ?_
      refine x_aload_n X dX7_interfaces_30 rfl 2 rfl ?_
      refine x_get (v := .int (q4.2 7 0)) X 0 9 in_X7 rfl rfl (by decide) m_X7_71 rfl dX7_interfaces_31 ?_
      refine x_if_ne (tgt := 56) X dX7_interfaces_34 (by decide) (fun c5 => ?_) (fun c5 => ?_)
      · replace h := if_f c5 h
        refine x_sub [2, 3, 4, 1, 0] rfl ?_
        exact w_X7_interfaces_j56_7 ret X x1 a.1 (a.2 3 0) q4.1 q4.2 r h k0 k1
      · replace h := if_t c5 h
        refine x_aload_n X dX7_interfaces_37 rfl 2 rfl ?_
        refine x_iload X dX7_interfaces_38 0 rfl ?_
        refine x_bipush (v := 7) X dX7_interfaces_40 (by decide) ?_
        obtain ⟨q14, e14, h⟩ := bd h
        refine x_callR X [.int q4.1, .int 7] [] (c_X7_is K.l K.D g q4.1 7 q4.2 q14 e14) ok_X7_is m_X7_143 0 rfl rfl rfl rfl (Nat.le_of_ble_eq_true rfl) ⟨Nat.zero_le _, Nat.zero_le _⟩ ⟨rfl, rfl, by decide, by decide⟩ dX7_interfaces_42 ?_
        refine x_if_ne (tgt := 56) X dX7_interfaces_45 (by decide) (fun c15 => ?_) (fun c15 => ?_)
        · replace h := if_f c15 h
          refine x_sub [2, 3, 4, 1, 0] rfl ?_
          exact w_X7_interfaces_j56_7 ret X x1 a.1 (a.2 3 0) q4.1 q4.2 r h k0 k1
        · replace h := if_t c15 h
          refine x_aload_n X dX7_interfaces_48 rfl 2 rfl ?_
          refine x_bipush (v := 12) X dX7_interfaces_49 (by decide) ?_
          refine x_iload_n X dX7_interfaces_51 rfl 1 rfl ?_
          obtain ⟨q16, e16, h⟩ := bd h
          refine x_callI X [.int 12, .int (a.2 3 0)] [] (c_X7_fail K.l K.D g 12 (a.2 3 0) q4.2 q16 e16) ok_X7_fail m_X7_89 0 rfl rfl rfl rfl (Nat.le_of_ble_eq_true rfl) ⟨Nat.zero_le _, Nat.zero_le _⟩ ⟨rfl, rfl, by decide, by decide⟩ dX7_interfaces_52 ?_
          refine x_pop X dX7_interfaces_55 rfl ?_
          refine x_sub [2, 3, 4, 1, 0] rfl ?_
          exact w_X7_interfaces_j56_7 ret X x1 a.1 (a.2 3 0) q4.1 q16.2 r h k0 k1
set_option maxRecDepth 100000 in
set_option maxHeartbeats 4000000 in
theorem w_X7_interfaces_j119 {K : Cx} {g : Gw} (ret : St) (X : XC K g cX7_interfaces 6 RX7 none rm_X7_interfaces) (u : St) (h : f_X7_interfaces_j119 u = some ret) : XW K 0 0 6 (QV K g (wdM g) ret) (wdM g) u 119 [] [] := by
  unfold f_X7_interfaces_j119 at h
  exact x_vret X (Option.some.inj h) dX7_interfaces_119
set_option maxRecDepth 100000 in
set_option maxHeartbeats 4000000 in
theorem c_X7_interfaces (l : Launch) (D : va_G) (g : Gw) (u : St) (ret : St) (h : f_X7_interfaces u = some ret) : metV l D g (wdM g) yX7_interfaces cX7_interfaces 6 rm_X7_interfaces [.ref (g.1 0)] u ret := by
  refine metV_of (own := RX7) (lv := [(0, .ref (g.1 0))]) (by decide) rfl rfl (Nat.le_of_ble_eq_true rfl) (fun K hl9 hD9 X => ?_)
  subst hl9
  subst hD9
  unfold f_X7_interfaces at h
  refine x_aload_n X dX7_interfaces_0 rfl 0 rfl ?_
  obtain ⟨q1, e1, h⟩ := bd h
  refine x_callI X [] [] (c_X7_u2 K.l K.D g u q1 e1) ok_X7_u2 m_X7_130 0 rfl rfl rfl rfl (Nat.le_of_ble_eq_true rfl) ⟨Nat.zero_le _, Nat.zero_le _⟩ ⟨rfl, rfl, by decide, by decide⟩ dX7_interfaces_1 ?_
  refine x_istore_n (lv2 := [(1, .int q1.1), (0, .ref (g.1 0))]) X dX7_interfaces_4 rfl (by decide) rfl ?_
  refine x_iconst (v := 0) X dX7_interfaces_5 (by decide) ?_
  refine x_istore_n (lv2 := [(2, .int 0), (1, .int q1.1), (0, .ref (g.1 0))]) X dX7_interfaces_6 rfl (by decide) rfl ?_
  refine x_sub [2, 1, 0] rfl ?_
  obtain ⟨q170, e17, h⟩ := bd h
  refine loopF_w (WH := H_X7_interfaces_7 q1.1 K g ret) (KB := E_X7_interfaces_7 q1.1 K g ret) (fun a9 r9 h9 k8 k7 => w_X7_interfaces_b7 q1.1 ret X a9 r9 h9 k8 k7) FU (0, q1.2) q170 e17 ?_
  rcases q170 with q17 | q17
  · replace h := sl h
    exact (Option.some.inj h)
  · replace h := sr h
    show XW K 0 0 6 (QV K g (wdM g) ret) (wdM g) q17 119 [] []
    exact w_X7_interfaces_j119 ret X q17 h
set_option maxRecDepth 100000 in
set_option maxHeartbeats 4000000 in
theorem w_X7_several_j26 {K : Cx} {g : Gw} (ret : Int32) (X : XC K g cX7_several 2 RX7 (some .boolean) rm_X7_several) (z0 : Int32) (u : St) (h : f_X7_several_j26 z0 u = some ret) : XW K 0 0 2 (QI K g (wdM g) (ret, u)) (wdM g) u 26 [] [.int z0] := by
  unfold f_X7_several_j26 at h
  obtain ⟨b2, h⟩ := bchk_some h
  exact x_zret X b2 (roE (Option.some.inj h)) dX7_several_26
set_option maxRecDepth 100000 in
set_option maxHeartbeats 4000000 in
theorem c_X7_several (l : Launch) (D : va_G) (g : Gw) (p0 : Int32) (u : St) (ret : Int32) (h : f_X7_several p0 u = some ret) : metI l D g (wdM g) yX7_several cX7_several 2 .boolean rm_X7_several [.int p0] u (ret, u) := by
  refine metI_of (own := RX7) (lv := [(0, .int p0)]) (by decide) rfl rfl (Nat.le_of_ble_eq_true rfl) (fun K hl9 hD9 X => ?_)
  subst hl9
  subst hD9
  unfold f_X7_several at h
  refine x_iload_n X dX7_several_0 rfl 0 rfl ?_
  refine x_iconst (v := 1) X dX7_several_1 (by decide) ?_
  refine x_iand X dX7_several_2 ?_
  refine x_iload_n X dX7_several_3 rfl 0 rfl ?_
  refine x_iconst (v := 1) X dX7_several_4 (by decide) ?_
  refine x_ishr X dX7_several_5 ?_
  refine x_iconst (v := 1) X dX7_several_6 (by decide) ?_
  refine x_iand X dX7_several_7 ?_
  refine x_iadd X dX7_several_8 ?_
  refine x_iload_n X dX7_several_9 rfl 0 rfl ?_
  refine x_iconst (v := 2) X dX7_several_10 (by decide) ?_
  refine x_ishr X dX7_several_11 ?_
  refine x_iconst (v := 1) X dX7_several_12 (by decide) ?_
  refine x_iand X dX7_several_13 ?_
  refine x_iadd X dX7_several_14 ?_
  refine x_istore_n (lv2 := [(1, .int (((p0 &&& 1) + ((p0 >>> ((1 : Int32) &&& 31)) &&& 1)) + ((p0 >>> ((2 : Int32) &&& 31)) &&& 1))), (0, .int p0)]) X dX7_several_15 rfl (by decide) rfl ?_
  refine x_iload_n X dX7_several_16 rfl 0 rfl ?_
  refine x_iconst (v := 1) X dX7_several_17 (by decide) ?_
  refine x_icmp_le (tgt := 25) X dX7_several_18 (by decide) (fun c1 => ?_) (fun c1 => ?_)
  · replace h := if_t c1 h
    refine x_iconst (v := 0) X dX7_several_25 (by decide) ?_
    refine x_sub [] rfl ?_
    exact w_X7_several_j26 ret X 0 u h
  · replace h := if_f c1 h
    refine x_iconst (v := 1) X dX7_several_21 (by decide) ?_
    refine x_goto (tgt := 26) X dX7_several_22 (by decide) ?_
    refine x_sub [] rfl ?_
    exact w_X7_several_j26 ret X 1 u h
