abbrev H_X7_methodAttributes_9 (x2 : Int32) (K : Cx) (g : Gw) (ret : Int32 × St) (a : Int32 × Int32 × St) : Prop := XW K 0 0 10 (QI K g (wdM g) ret) (wdM g) a.2.2 9 [(0, .ref (g.1 0)), (1, .int a.1), (2, .int x2), (3, .int a.2.1)] []
abbrev E_X7_methodAttributes_9 (x2 : Int32) (K : Cx) (g : Gw) (ret : Int32 × St) (q : (Int32 × St) ⊕ (Int32 × St)) : Prop := Sum.elim (fun q => q = ret) (fun q => XW K 0 0 10 (QI K g (wdM g) ret) (wdM g) q.2 150 [(1, .int q.1)] []) q
set_option maxRecDepth 100000 in
set_option maxHeartbeats 4000000 in
theorem w_X7_methodAttributes_j144_9 {K : Cx} {g : Gw} (ret : Int32 × St) (X : XC K g cX7_methodAttributes 10 RX7 (some .boolean) rm_X7_methodAttributes) (x1 : Int32) (x2 : Int32) (x3 : Int32) (u : St) (r : ((Int32 × St) ⊕ (Int32 × St)) ⊕ (Int32 × Int32 × St)) (h : f_X7_methodAttributes_j144_9 x1 x2 x3 u = some r) (k0 : ∀ q, r = .inl q → E_X7_methodAttributes_9 x2 K g ret q) (k1 : ∀ q, r = .inr q → H_X7_methodAttributes_9 x2 K g ret q) : XW K 0 0 10 (QI K g (wdM g) ret) (wdM g) u 144 [(0, .ref (g.1 0)), (1, .int x1), (2, .int x2), (3, .int x3)] [] := by
  unfold f_X7_methodAttributes_j144_9 at h
  refine x_iinc (v := (x3 + 1)) (lv2 := [(3, .int (x3 + 1)), (0, .ref (g.1 0)), (1, .int x1), (2, .int x2)]) X dX7_methodAttributes_144 3 rfl rfl (by decide) rfl ?_
  refine x_goto (tgt := 9) X dX7_methodAttributes_147 (by decide) ?_
  refine x_sub [1, 2, 3, 0] rfl ?_
  have h9 := k1 _ (Option.some.inj h).symm
  exact h9
set_option maxRecDepth 100000 in
set_option maxHeartbeats 4000000 in
theorem w_X7_methodAttributes_j127_9 {K : Cx} {g : Gw} (ret : Int32 × St) (X : XC K g cX7_methodAttributes 10 RX7 (some .boolean) rm_X7_methodAttributes) (x1 : Int32) (x2 : Int32) (x3 : Int32) (u : St) (r : ((Int32 × St) ⊕ (Int32 × St)) ⊕ (Int32 × Int32 × St)) (h : f_X7_methodAttributes_j127_9 x1 x2 x3 u = some r) (k0 : ∀ q, r = .inl q → E_X7_methodAttributes_9 x2 K g ret q) (k1 : ∀ q, r = .inr q → H_X7_methodAttributes_9 x2 K g ret q) : XW K 0 0 10 (QI K g (wdM g) ret) (wdM g) u 127 [(0, .ref (g.1 0)), (1, .int x1), (2, .int x2), (3, .int x3)] [] := by
  unfold f_X7_methodAttributes_j127_9 at h
  refine x_aload_n X dX7_methodAttributes_127 rfl 0 rfl ?_
  refine x_get (v := .int (u 7 0)) X 0 9 in_X7 rfl rfl (by decide) m_X7_71 rfl dX7_methodAttributes_128 ?_
  refine x_if_ne (tgt := 144) X dX7_methodAttributes_131 (by decide) (fun c11 => ?_) (fun c11 => ?_)
  · replace h := if_f c11 h
    exact w_X7_methodAttributes_j144_9 ret X x1 x2 x3 u r h k0 k1
  · replace h := if_t c11 h
    refine x_aload_n X dX7_methodAttributes_134 rfl 0 rfl ?_
    refine x_get (v := .ref (g.1 3)) X 0 11 in_X7 rfl rfl (by decide) m_X7_16 rfl dX7_methodAttributes_135 ?_
    refine x_iconst (v := 5) X dX7_methodAttributes_138 (by decide) ?_
    refine x_dup2 X dX7_methodAttributes_139 rfl rfl ?_
    obtain ⟨i12, h⟩ := chk_some h
    refine x_iald (f := (u 32)) X 3 0 rfl rfl i12 dX7_methodAttributes_140 ?_
    refine x_iconst (v := 1) X dX7_methodAttributes_141 (by decide) ?_
    refine x_iadd X dX7_methodAttributes_142 ?_
    obtain ⟨i13, h⟩ := chk_some h
    refine x_iast (f := (u 32)) (u2 := (up u 32 (Int32.toNatClampNeg 5) (((u 32) (Int32.toNatClampNeg 5)) + 1))) X 3 0 rfl rfl i13 (wdM_32 g u (Int32.toNatClampNeg 5) (((u 32) (Int32.toNatClampNeg 5)) + 1)) dX7_methodAttributes_143 ?_
    exact w_X7_methodAttributes_j144_9 ret X x1 x2 x3 (up u 32 (Int32.toNatClampNeg 5) (((u 32) (Int32.toNatClampNeg 5)) + 1)) r h k0 k1
set_option maxRecDepth 100000 in
set_option maxHeartbeats 4000000 in
theorem w_X7_methodAttributes_j120_9 {K : Cx} {g : Gw} (ret : Int32 × St) (X : XC K g cX7_methodAttributes 10 RX7 (some .boolean) rm_X7_methodAttributes) (x1 : Int32) (x2 : Int32) (x3 : Int32) (x6 : Int32) (u : St) (r : ((Int32 × St) ⊕ (Int32 × St)) ⊕ (Int32 × Int32 × St)) (h : f_X7_methodAttributes_j120_9 x1 x2 x3 x6 u = some r) (k0 : ∀ q, r = .inl q → E_X7_methodAttributes_9 x2 K g ret q) (k1 : ∀ q, r = .inr q → H_X7_methodAttributes_9 x2 K g ret q) : XW K 0 0 10 (QI K g (wdM g) ret) (wdM g) u 120 [(0, .ref (g.1 0)), (1, .int x1), (2, .int x2), (3, .int x3), (6, .int x6)] [] := by
  unfold f_X7_methodAttributes_j120_9 at h
  refine x_iload X dX7_methodAttributes_120 4 rfl ?_
  refine x_if_eq (tgt := 127) X dX7_methodAttributes_122 (by decide) (fun c10 => ?_) (fun c10 => ?_)
  · replace h := if_t c10 h
    refine x_sub [0, 1, 2, 3] rfl ?_
    exact w_X7_methodAttributes_j127_9 ret X x1 x2 x3 u r h k0 k1
  · replace h := if_f c10 h
    refine x_iconst (v := 1) X dX7_methodAttributes_125 (by decide) ?_
    refine x_istore_n (lv2 := [(1, .int 1), (0, .ref (g.1 0)), (2, .int x2), (3, .int x3), (6, .int x6)]) X dX7_methodAttributes_126 rfl (by decide) rfl ?_
    refine x_sub [1, 0, 2, 3] rfl ?_
    exact w_X7_methodAttributes_j127_9 ret X 1 x2 x3 u r h k0 k1
set_option maxRecDepth 100000 in
set_option maxHeartbeats 4000000 in
theorem w_X7_methodAttributes_j78_9 {K : Cx} {g : Gw} (ret : Int32 × St) (X : XC K g cX7_methodAttributes 10 RX7 (some .boolean) rm_X7_methodAttributes) (x1 : Int32) (x2 : Int32) (x3 : Int32) (x4 : Int32) (x6 : Int32) (u : St) (r : ((Int32 × St) ⊕ (Int32 × St)) ⊕ (Int32 × Int32 × St)) (h : f_X7_methodAttributes_j78_9 x1 x2 x3 x4 x6 u = some r) (k0 : ∀ q, r = .inl q → E_X7_methodAttributes_9 x2 K g ret q) (k1 : ∀ q, r = .inr q → H_X7_methodAttributes_9 x2 K g ret q) : XW K 0 0 10 (QI K g (wdM g) ret) (wdM g) u 78 [(0, .ref (g.1 0)), (1, .int x1), (2, .int x2), (3, .int x3), (4, .int x4), (6, .int x6)] [] := by
  unfold f_X7_methodAttributes_j78_9 at h
  refine x_aload_n X dX7_methodAttributes_78 rfl 0 rfl ?_
  obtain ⟨q7, e7, h⟩ := bd h
  refine x_callL X [] [] (c_X7_lengthAt K.l K.D g u q7 e7) ok_X7_lengthAt m_X7_176 0 rfl rfl rfl rfl (Nat.le_of_ble_eq_true rfl) ⟨Nat.zero_le _, Nat.zero_le _⟩ ⟨rfl, rfl, by decide, by decide⟩ dX7_methodAttributes_79 ?_
  refine x_lstore (lv2 := [(7, .long q7.1), (0, .ref (g.1 0)), (1, .int x1), (2, .int x2), (3, .int x3), (4, .int x4), (6, .int x6)]) X dX7_methodAttributes_82 (by decide) rfl ?_
  refine x_aload_n X dX7_methodAttributes_84 rfl 1 rfl ?_
  refine x_get (v := .int (q7.2 3 0)) X 0 5 in_X7 rfl rfl (by decide) m_X7_77 rfl dX7_methodAttributes_85 ?_
  refine x_istore (lv2 := [(9, .int (q7.2 3 0)), (7, .long q7.1), (0, .ref (g.1 0)), (1, .int x1), (2, .int x2), (3, .int x3), (4, .int x4), (6, .int x6)]) X dX7_methodAttributes_88 (by decide) rfl ?_
  refine x_aload_n X dX7_methodAttributes_90 rfl 2 rfl ?_
  refine x_lload X dX7_methodAttributes_91 1 rfl ?_
  obtain ⟨q8, e8, h⟩ := bd h
  refine x_callV X [.long q7.1] [] (c_X7_skip K.l K.D g q7.1 q7.2 q8 e8) ok_X7_skip m_X7_133 0 rfl rfl rfl rfl (Nat.le_of_ble_eq_true rfl) ⟨Nat.zero_le _, Nat.zero_le _⟩ ⟨rfl, rfl, by decide, by decide⟩ dX7_methodAttributes_93 ?_
  refine x_aload_n X dX7_methodAttributes_96 rfl 2 rfl ?_
  refine x_get (v := .int (q8 7 0)) X 0 9 in_X7 rfl rfl (by decide) m_X7_71 rfl dX7_methodAttributes_97 ?_
  refine x_if_ne (tgt := 120) X dX7_methodAttributes_100 (by decide) (fun c9 => ?_) (fun c9 => ?_)
  · replace h := if_f c9 h
    refine x_sub [2, 3, 4, 5, 7] rfl ?_
    exact w_X7_methodAttributes_j120_9 ret X x1 x2 x3 x6 q8 r h k0 k1
  · replace h := if_t c9 h
    refine x_iload X dX7_methodAttributes_103 7 rfl ?_
    refine x_if_eq (tgt := 120) X dX7_methodAttributes_105 (by decide) (fun c14 => ?_) (fun c14 => ?_)
    · replace h := if_t c14 h
      refine x_sub [2, 3, 4, 5, 7] rfl ?_
      exact w_X7_methodAttributes_j120_9 ret X x1 x2 x3 x6 q8 r h k0 k1
    · replace h := if_f c14 h
      refine x_aload_n X dX7_methodAttributes_108 rfl 2 rfl ?_
      refine x_iload X dX7_methodAttributes_109 0 rfl ?_
      refine x_aload_n X dX7_methodAttributes_111 rfl 2 rfl ?_
      refine x_get (v := .int (q8 3 0)) X 0 5 in_X7 rfl rfl (by decide) m_X7_77 rfl dX7_methodAttributes_112 ?_
      refine x_iload X dX7_methodAttributes_115 6 rfl ?_
      obtain ⟨q15, e15, h⟩ := bd h
      refine x_callV X [.int (q7.2 3 0), .int (q8 3 0), .int x4] [] (c_X7_readCode K.l K.D g (q7.2 3 0) (q8 3 0) x4 q8 q15 e15) ok_X7_readCode m_X7_197 0 rfl rfl rfl rfl (Nat.le_of_ble_eq_true rfl) ⟨Nat.zero_le _, Nat.zero_le _⟩ ⟨rfl, rfl, by decide, by decide⟩ dX7_methodAttributes_117 ?_
      refine x_sub [2, 3, 4, 5, 7] rfl ?_
      exact w_X7_methodAttributes_j120_9 ret X x1 x2 x3 x6 q15 r h k0 k1
set_option maxRecDepth 100000 in
set_option maxHeartbeats 4000000 in
theorem w_X7_methodAttributes_j58_9 {K : Cx} {g : Gw} (ret : Int32 × St) (X : XC K g cX7_methodAttributes 10 RX7 (some .boolean) rm_X7_methodAttributes) (x1 : Int32) (x2 : Int32) (x3 : Int32) (x4 : Int32) (z0 : Int32) (u : St) (r : ((Int32 × St) ⊕ (Int32 × St)) ⊕ (Int32 × Int32 × St)) (h : f_X7_methodAttributes_j58_9 x1 x2 x3 x4 z0 u = some r) (k0 : ∀ q, r = .inl q → E_X7_methodAttributes_9 x2 K g ret q) (k1 : ∀ q, r = .inr q → H_X7_methodAttributes_9 x2 K g ret q) : XW K 0 0 10 (QI K g (wdM g) ret) (wdM g) u 58 [(0, .ref (g.1 0)), (1, .int x1), (2, .int x2), (3, .int x3), (4, .int x4)] [.int z0] := by
  unfold f_X7_methodAttributes_j58_9 at h
  refine x_istore (lv2 := [(6, .int z0), (0, .ref (g.1 0)), (1, .int x1), (2, .int x2), (3, .int x3), (4, .int x4)]) X dX7_methodAttributes_58 (by decide) rfl ?_
  refine x_iload X dX7_methodAttributes_60 0 rfl ?_
  refine x_if_eq (tgt := 78) X dX7_methodAttributes_62 (by decide) (fun c6 => ?_) (fun c6 => ?_)
  · replace h := if_t c6 h
    refine x_sub [1, 2, 3, 4, 5, 0] rfl ?_
    exact w_X7_methodAttributes_j78_9 ret X x1 x2 x3 x4 z0 u r h k0 k1
  · replace h := if_f c6 h
    refine x_iload_n X dX7_methodAttributes_65 rfl 2 rfl ?_
    refine x_if_eq (tgt := 78) X dX7_methodAttributes_66 (by decide) (fun c16 => ?_) (fun c16 => ?_)
    · replace h := if_t c16 h
      refine x_sub [1, 2, 3, 4, 5, 0] rfl ?_
      exact w_X7_methodAttributes_j78_9 ret X x1 x2 x3 x4 z0 u r h k0 k1
    · replace h := if_f c16 h
      refine x_aload_n X dX7_methodAttributes_69 rfl 1 rfl ?_
      refine x_bipush (v := 19) X dX7_methodAttributes_70 (by decide) ?_
      refine x_iload X dX7_methodAttributes_72 5 rfl ?_
      obtain ⟨q17, e17, h⟩ := bd h
      refine x_callI X [.int 19, .int x4] [] (c_X7_fail K.l K.D g 19 x4 u q17 e17) ok_X7_fail m_X7_89 0 rfl rfl rfl rfl (Nat.le_of_ble_eq_true rfl) ⟨Nat.zero_le _, Nat.zero_le _⟩ ⟨rfl, rfl, by decide, by decide⟩ dX7_methodAttributes_74 ?_
      refine x_pop X dX7_methodAttributes_77 rfl ?_
      refine x_sub [1, 2, 3, 4, 5, 0] rfl ?_
      exact w_X7_methodAttributes_j78_9 ret X x1 x2 x3 x4 z0 q17.2 r h k0 k1
set_option maxRecDepth 100000 in
set_option maxHeartbeats 4000000 in
theorem w_X7_methodAttributes_j57_9 {K : Cx} {g : Gw} (ret : Int32 × St) (X : XC K g cX7_methodAttributes 10 RX7 (some .boolean) rm_X7_methodAttributes) (x1 : Int32) (x2 : Int32) (x3 : Int32) (x4 : Int32) (u : St) (r : ((Int32 × St) ⊕ (Int32 × St)) ⊕ (Int32 × Int32 × St)) (h : f_X7_methodAttributes_j57_9 x1 x2 x3 x4 u = some r) (k0 : ∀ q, r = .inl q → E_X7_methodAttributes_9 x2 K g ret q) (k1 : ∀ q, r = .inr q → H_X7_methodAttributes_9 x2 K g ret q) : XW K 0 0 10 (QI K g (wdM g) ret) (wdM g) u 57 [(0, .ref (g.1 0)), (1, .int x1), (2, .int x2), (3, .int x3), (4, .int x4)] [] := by
  unfold f_X7_methodAttributes_j57_9 at h
  refine x_iconst (v := 0) X dX7_methodAttributes_57 (by decide) ?_
  exact w_X7_methodAttributes_j58_9 ret X x1 x2 x3 x4 0 u r h k0 k1
set_option maxRecDepth 100000 in
set_option maxHeartbeats 4000000 in
theorem w_X7_methodAttributes_b9 {K : Cx} {g : Gw} (x2 : Int32) (ret : Int32 × St) (X : XC K g cX7_methodAttributes 10 RX7 (some .boolean) rm_X7_methodAttributes) (a : Int32 × Int32 × St) (r : ((Int32 × St) ⊕ (Int32 × St)) ⊕ (Int32 × Int32 × St)) (h : f_X7_methodAttributes_b9 x2 a = some r) (k0 : ∀ q, r = .inl q → E_X7_methodAttributes_9 x2 K g ret q) (k1 : ∀ q, r = .inr q → H_X7_methodAttributes_9 x2 K g ret q) : H_X7_methodAttributes_9 x2 K g ret a := by
  unfold f_X7_methodAttributes_b9 at h
  show XW K 0 0 10 (QI K g (wdM g) ret) (wdM g) a.2.2 9 [(0, .ref (g.1 0)), (1, .int a.1), (2, .int x2), (3, .int a.2.1)] []
  refine x_iload_n X dX7_methodAttributes_9 rfl 3 rfl ?_
  refine x_iload_n X dX7_methodAttributes_10 rfl 2 rfl ?_
  refine x_icmp_ge (tgt := 150) X dX7_methodAttributes_11 (by decide) (fun c2 => ?_) (fun c2 => ?_)
  · replace h := if_t c2 h
    refine x_sub [1] rfl ?_
    have h9 := k0 _ (Option.some.inj h).symm
    exact h9
  · replace h := if_f c2 h
    refine x_aload_n X dX7_methodAttributes_14 rfl 0 rfl ?_
    refine x_get (v := .int (a.2.2 7 0)) X 0 9 in_X7 rfl rfl (by decide) m_X7_71 rfl dX7_methodAttributes_15 ?_
    refine x_if_ne (tgt := 150) X dX7_methodAttributes_18 (by decide) (fun c3 => ?_) (fun c3 => ?_)
    · replace h := if_f c3 h
      refine x_sub [1] rfl ?_
      have h9 := k0 _ (Option.some.inj h).symm
      exact h9
    · replace h := if_t c3 h
      refine x_aload_n X dX7_methodAttributes_21 rfl 0 rfl ?_
      refine x_get (v := .int (a.2.2 3 0)) X 0 5 in_X7 rfl rfl (by decide) m_X7_77 rfl dX7_methodAttributes_22 ?_
      refine x_istore (lv2 := [(4, .int (a.2.2 3 0)), (0, .ref (g.1 0)), (1, .int a.1), (2, .int x2), (3, .int a.2.1)]) X dX7_methodAttributes_25 (by decide) rfl ?_
      refine x_aload_n X dX7_methodAttributes_27 rfl 1 rfl ?_
      obtain ⟨q4, e4, h⟩ := bd h
      refine x_callI X [] [] (c_X7_textAt K.l K.D g a.2.2 q4 e4) ok_X7_textAt m_X7_173 0 rfl rfl rfl rfl (Nat.le_of_ble_eq_true rfl) ⟨Nat.zero_le _, Nat.zero_le _⟩ ⟨rfl, rfl, by decide, by decide⟩ dX7_methodAttributes_28 ?_
      refine x_istore (lv2 := [(5, .int q4.1), (4, .int (a.2.2 3 0)), (0, .ref (g.1 0)), (1, .int a.1), (2, .int x2), (3, .int a.2.1)]) X dX7_methodAttributes_31 (by decide) rfl ?_
      refine x_aload_n X dX7_methodAttributes_33 rfl 2 rfl ?_
      refine x_get (v := .int (q4.2 7 0)) X 0 9 in_X7 rfl rfl (by decide) m_X7_71 rfl dX7_methodAttributes_34 ?_
      refine x_if_ne (tgt := 57) X dX7_methodAttributes_37 (by decide) (fun c5 => ?_) (fun c5 => ?_)
      · replace h := if_f c5 h
        refine x_sub [2, 3, 4, 5, 1] rfl ?_
        exact w_X7_methodAttributes_j57_9 ret X a.1 x2 a.2.1 (a.2.2 3 0) q4.2 r h k0 k1
      · replace h := if_t c5 h
        refine x_aload_n X dX7_methodAttributes_40 rfl 2 rfl ?_
        refine x_iload X dX7_methodAttributes_41 0 rfl ?_
        refine x_aload_n X dX7_methodAttributes_43 rfl 2 rfl ?_
        refine x_get (v := .ref (g.1 14)) X 0 30 in_X7 rfl rfl (by decide) m_X7_50 rfl dX7_methodAttributes_44 ?_
        obtain ⟨q18, e18, h⟩ := bd h
        refine x_callR X [.int q4.1, .ref (g.1 14)] [] (c_X7_spells_a14 K.l K.D g q4.1 q4.2 q18 e18) ok_X7_spells m_X7_105 0 rfl rfl rfl rfl (Nat.le_of_ble_eq_true rfl) ⟨Nat.zero_le _, Nat.zero_le _⟩ ⟨rfl, rfl, by decide, by decide⟩ dX7_methodAttributes_47 ?_
        refine x_if_eq (tgt := 57) X dX7_methodAttributes_50 (by decide) (fun c19 => ?_) (fun c19 => ?_)
        · replace h := if_t c19 h
          refine x_sub [2, 3, 4, 5, 1] rfl ?_
          exact w_X7_methodAttributes_j57_9 ret X a.1 x2 a.2.1 (a.2.2 3 0) q4.2 r h k0 k1
        · replace h := if_f c19 h
          refine x_iconst (v := 1) X dX7_methodAttributes_53 (by decide) ?_
          refine x_goto (tgt := 58) X dX7_methodAttributes_54 (by decide) ?_
          refine x_sub [2, 3, 4, 5, 1] rfl ?_
          exact w_X7_methodAttributes_j58_9 ret X a.1 x2 a.2.1 (a.2.2 3 0) 1 q4.2 r h k0 k1
set_option maxRecDepth 100000 in
set_option maxHeartbeats 4000000 in
theorem w_X7_methodAttributes_j150 {K : Cx} {g : Gw} (ret : Int32 × St) (X : XC K g cX7_methodAttributes 10 RX7 (some .boolean) rm_X7_methodAttributes) (x1 : Int32) (u : St) (h : f_X7_methodAttributes_j150 x1 u = some ret) : XW K 0 0 10 (QI K g (wdM g) ret) (wdM g) u 150 [(1, .int x1)] [] := by
  unfold f_X7_methodAttributes_j150 at h
  refine x_iload_n X dX7_methodAttributes_150 rfl 0 rfl ?_
  obtain ⟨b21, h⟩ := bchk_some h
  exact x_zret X b21 (Option.some.inj h) dX7_methodAttributes_151
set_option maxRecDepth 100000 in
set_option maxHeartbeats 4000000 in
theorem c_X7_methodAttributes (l : Launch) (D : va_G) (g : Gw) (u : St) (ret : Int32 × St) (h : f_X7_methodAttributes u = some ret) : metI l D g (wdM g) yX7_methodAttributes cX7_methodAttributes 10 .boolean rm_X7_methodAttributes [.ref (g.1 0)] u ret := by
  refine metI_of (own := RX7) (lv := [(0, .ref (g.1 0))]) (by decide) rfl rfl (Nat.le_of_ble_eq_true rfl) (fun K hl9 hD9 X => ?_)
  subst hl9
  subst hD9
  unfold f_X7_methodAttributes at h
  refine x_iconst (v := 0) X dX7_methodAttributes_0 (by decide) ?_
  refine x_istore_n (lv2 := [(1, .int 0), (0, .ref (g.1 0))]) X dX7_methodAttributes_1 rfl (by decide) rfl ?_
  refine x_aload_n X dX7_methodAttributes_2 rfl 1 rfl ?_
  obtain ⟨q1, e1, h⟩ := bd h
  refine x_callI X [] [] (c_X7_u2 K.l K.D g u q1 e1) ok_X7_u2 m_X7_130 0 rfl rfl rfl rfl (Nat.le_of_ble_eq_true rfl) ⟨Nat.zero_le _, Nat.zero_le _⟩ ⟨rfl, rfl, by decide, by decide⟩ dX7_methodAttributes_3 ?_
  refine x_istore_n (lv2 := [(2, .int q1.1), (1, .int 0), (0, .ref (g.1 0))]) X dX7_methodAttributes_6 rfl (by decide) rfl ?_
  refine x_iconst (v := 0) X dX7_methodAttributes_7 (by decide) ?_
  refine x_istore_n (lv2 := [(3, .int 0), (2, .int q1.1), (1, .int 0), (0, .ref (g.1 0))]) X dX7_methodAttributes_8 rfl (by decide) rfl ?_
  refine x_sub [3, 2, 1, 0] rfl ?_
  obtain ⟨q200, e20, h⟩ := bd h
  refine loopF_w (WH := H_X7_methodAttributes_9 q1.1 K g ret) (KB := E_X7_methodAttributes_9 q1.1 K g ret) (fun a9 r9 h9 k8 k7 => w_X7_methodAttributes_b9 q1.1 ret X a9 r9 h9 k8 k7) FU (0, 0, q1.2) q200 e20 ?_
  rcases q200 with q20 | q20
  · replace h := sl h
    exact (Option.some.inj h)
  · replace h := sr h
    show XW K 0 0 10 (QI K g (wdM g) ret) (wdM g) q20.2 150 [(1, .int q20.1)] []
    exact w_X7_methodAttributes_j150 ret X q20.1 q20.2 h
abbrev H_X7_methods_7 (x1 : Int32) (K : Cx) (g : Gw) (ret : St) (a : Int32 × St) : Prop := XW K 0 0 6 (QV K g (wdM g) ret) (wdM g) a.2 7 [(0, .ref (g.1 0)), (1, .int x1), (2, .int a.1)] []
abbrev E_X7_methods_7 (x1 : Int32) (K : Cx) (g : Gw) (ret : St) (q : (St) ⊕ (St)) : Prop := Sum.elim (fun q => q = ret) (fun q => XW K 0 0 6 (QV K g (wdM g) ret) (wdM g) q 126 [] []) q
set_option maxRecDepth 100000 in
set_option maxHeartbeats 4000000 in
theorem w_X7_methods_j120_7 {K : Cx} {g : Gw} (ret : St) (X : XC K g cX7_methods 6 RX7 none rm_X7_methods) (x1 : Int32) (x2 : Int32) (u : St) (r : ((St) ⊕ (St)) ⊕ (Int32 × St)) (h : f_X7_methods_j120_7 x1 x2 u = some r) (k0 : ∀ q, r = .inl q → E_X7_methods_7 x1 K g ret q) (k1 : ∀ q, r = .inr q → H_X7_methods_7 x1 K g ret q) : XW K 0 0 6 (QV K g (wdM g) ret) (wdM g) u 120 [(0, .ref (g.1 0)), (1, .int x1), (2, .int x2)] [] := by
  unfold f_X7_methods_j120_7 at h
  refine x_iinc (v := (x2 + 1)) (lv2 := [(2, .int (x2 + 1)), (0, .ref (g.1 0)), (1, .int x1)]) X dX7_methods_120 2 rfl rfl (by decide) rfl ?_
  refine x_goto (tgt := 7) X dX7_methods_123 (by decide) ?_
  refine x_sub [1, 2, 0] rfl ?_
  have h9 := k1 _ (Option.some.inj h).symm
  exact h9
set_option maxRecDepth 100000 in
set_option maxHeartbeats 4000000 in
theorem w_X7_methods_j103_7 {K : Cx} {g : Gw} (ret : St) (X : XC K g cX7_methods 6 RX7 none rm_X7_methods) (x1 : Int32) (x2 : Int32) (u : St) (r : ((St) ⊕ (St)) ⊕ (Int32 × St)) (h : f_X7_methods_j103_7 x1 x2 u = some r) (k0 : ∀ q, r = .inl q → E_X7_methods_7 x1 K g ret q) (k1 : ∀ q, r = .inr q → H_X7_methods_7 x1 K g ret q) : XW K 0 0 6 (QV K g (wdM g) ret) (wdM g) u 103 [(0, .ref (g.1 0)), (1, .int x1), (2, .int x2)] [] := by
  unfold f_X7_methods_j103_7 at h
  refine x_aload_n X dX7_methods_103 rfl 0 rfl ?_
  refine x_get (v := .int (u 7 0)) X 0 9 in_X7 rfl rfl (by decide) m_X7_71 rfl dX7_methods_104 ?_
  refine x_if_ne (tgt := 120) X dX7_methods_107 (by decide) (fun c11 => ?_) (fun c11 => ?_)
  · replace h := if_f c11 h
    exact w_X7_methods_j120_7 ret X x1 x2 u r h k0 k1
  · replace h := if_t c11 h
    refine x_aload_n X dX7_methods_110 rfl 0 rfl ?_
    refine x_get (v := .ref (g.1 3)) X 0 11 in_X7 rfl rfl (by decide) m_X7_16 rfl dX7_methods_111 ?_
    refine x_iconst (v := 2) X dX7_methods_114 (by decide) ?_
    refine x_dup2 X dX7_methods_115 rfl rfl ?_
    obtain ⟨i12, h⟩ := chk_some h
    refine x_iald (f := (u 32)) X 3 0 rfl rfl i12 dX7_methods_116 ?_
    refine x_iconst (v := 1) X dX7_methods_117 (by decide) ?_
    refine x_iadd X dX7_methods_118 ?_
    obtain ⟨i13, h⟩ := chk_some h
    refine x_iast (f := (u 32)) (u2 := (up u 32 (Int32.toNatClampNeg 2) (((u 32) (Int32.toNatClampNeg 2)) + 1))) X 3 0 rfl rfl i13 (wdM_32 g u (Int32.toNatClampNeg 2) (((u 32) (Int32.toNatClampNeg 2)) + 1)) dX7_methods_119 ?_
    exact w_X7_methods_j120_7 ret X x1 x2 (up u 32 (Int32.toNatClampNeg 2) (((u 32) (Int32.toNatClampNeg 2)) + 1)) r h k0 k1
set_option maxRecDepth 100000 in
set_option maxHeartbeats 4000000 in
theorem w_X7_methods_j92_7 {K : Cx} {g : Gw} (ret : St) (X : XC K g cX7_methods 6 RX7 none rm_X7_methods) (x1 : Int32) (x2 : Int32) (x3 : Int32) (z0 : Int32) (z1 : Int32) (u : St) (r : ((St) ⊕ (St)) ⊕ (Int32 × St)) (h : f_X7_methods_j92_7 x1 x2 x3 z0 z1 u = some r) (k0 : ∀ q, r = .inl q → E_X7_methods_7 x1 K g ret q) (k1 : ∀ q, r = .inr q → H_X7_methods_7 x1 K g ret q) : XW K 0 0 6 (QV K g (wdM g) ret) (wdM g) u 92 [(0, .ref (g.1 0)), (1, .int x1), (2, .int x2), (3, .int x3)] [.int z1, .int z0] := by
  unfold f_X7_methods_j92_7 at h
  refine x_icmp_ne (tgt := 103) X dX7_methods_92 (by decide) (fun c10 => ?_) (fun c10 => ?_)
  · replace h := if_f c10 h
    refine x_sub [0, 1, 2] rfl ?_
    exact w_X7_methods_j103_7 ret X x1 x2 u r h k0 k1
  · replace h := if_t c10 h
    refine x_aload_n X dX7_methods_95 rfl 0 rfl ?_
    refine x_bipush (v := 21) X dX7_methods_96 (by decide) ?_
    refine x_iload_n X dX7_methods_98 rfl 3 rfl ?_
    obtain ⟨q14, e14, h⟩ := bd h
    refine x_callI X [.int 21, .int x3] [] (c_X7_fail K.l K.D g 21 x3 u q14 e14) ok_X7_fail m_X7_89 0 rfl rfl rfl rfl (Nat.le_of_ble_eq_true rfl) ⟨Nat.zero_le _, Nat.zero_le _⟩ ⟨rfl, rfl, by decide, by decide⟩ dX7_methods_99 ?_
    refine x_pop X dX7_methods_102 rfl ?_
    refine x_sub [0, 1, 2] rfl ?_
    exact w_X7_methods_j103_7 ret X x1 x2 q14.2 r h k0 k1
set_option maxRecDepth 100000 in
set_option maxHeartbeats 4000000 in
theorem w_X7_methods_j45_7 {K : Cx} {g : Gw} (ret : St) (X : XC K g cX7_methods 6 RX7 none rm_X7_methods) (x1 : Int32) (x2 : Int32) (x3 : Int32) (z0 : Int32) (u : St) (r : ((St) ⊕ (St)) ⊕ (Int32 × St)) (h : f_X7_methods_j45_7 x1 x2 x3 z0 u = some r) (k0 : ∀ q, r = .inl q → E_X7_methods_7 x1 K g ret q) (k1 : ∀ q, r = .inr q → H_X7_methods_7 x1 K g ret q) : XW K 0 0 6 (QV K g (wdM g) ret) (wdM g) u 45 [(0, .ref (g.1 0)), (1, .int x1), (2, .int x2), (3, .int x3)] [.int z0] := by
  unfold f_X7_methods_j45_7 at h
  refine x_istore (lv2 := [(4, .int z0), (0, .ref (g.1 0)), (1, .int x1), (2, .int x2), (3, .int x3)]) X dX7_methods_45 (by decide) rfl ?_
  refine x_aload_n X dX7_methods_47 rfl 1 rfl ?_
  refine x_get (v := .int (u 7 0)) X 0 9 in_X7 rfl rfl (by decide) m_X7_71 rfl dX7_methods_48 ?_
  refine x_if_eq (tgt := 55) X dX7_methods_51 (by decide) (fun c6 => ?_) (fun c6 => ?_)
  · replace h := if_t c6 h
    refine x_sipush (v := 256) X dX7_methods_55 (by decide) ?_
    refine x_aload_n X dX7_methods_58 rfl 1 rfl ?_
    refine x_get (v := .ref (g.1 1)) X 0 0 in_X7 rfl rfl (by decide) m_X7_7 rfl dX7_methods_59 ?_
    refine x_iload_n X dX7_methods_62 rfl 4 rfl ?_
    obtain ⟨i7, h⟩ := chk_some h
    refine x_iald (f := (u 30)) X 1 0 rfl rfl i7 dX7_methods_63 ?_
    refine x_imul X dX7_methods_64 ?_
    refine x_aload_n X dX7_methods_65 rfl 1 rfl ?_
    refine x_get (v := .ref (g.1 1)) X 0 0 in_X7 rfl rfl (by decide) m_X7_7 rfl dX7_methods_66 ?_
    refine x_iload_n X dX7_methods_69 rfl 4 rfl ?_
    refine x_iconst (v := 1) X dX7_methods_70 (by decide) ?_
    refine x_iadd X dX7_methods_71 ?_
    obtain ⟨i8, h⟩ := chk_some h
    refine x_iald (f := (u 30)) X 1 0 rfl rfl i8 dX7_methods_72 ?_
    refine x_iadd X dX7_methods_73 ?_
    refine x_istore (lv2 := [(5, .int ((256 * ((u 30) (Int32.toNatClampNeg x3))) + ((u 30) (Int32.toNatClampNeg (x3 + 1))))), (4, .int z0), (0, .ref (g.1 0)), (1, .int x1), (2, .int x2), (3, .int x3)]) X dX7_methods_74 (by decide) rfl ?_
    refine x_iload X dX7_methods_76 1 rfl ?_
    refine x_iload X dX7_methods_78 0 rfl ?_
    refine x_sipush (v := 1280) X dX7_methods_80 (by decide) ?_
    refine x_iand X dX7_methods_83 ?_
    refine x_if_eq (tgt := 91) X dX7_methods_84 (by decide) (fun c9 => ?_) (fun c9 => ?_)
    · replace h := if_t c9 h
      refine x_iconst (v := 0) X dX7_methods_91 (by decide) ?_
      refine x_sub [2, 3, 4, 5] rfl ?_
      exact w_X7_methods_j92_7 ret X x1 x2 x3 z0 0 u r h k0 k1
    · replace h := if_f c9 h
      refine x_iconst (v := 1) X dX7_methods_87 (by decide) ?_
      refine x_goto (tgt := 92) X dX7_methods_88 (by decide) ?_
      refine x_sub [2, 3, 4, 5] rfl ?_
      exact w_X7_methods_j92_7 ret X x1 x2 x3 z0 1 u r h k0 k1
  · replace h := if_f c6 h
    exact x_vret X (k0 _ (Option.some.inj h).symm) dX7_methods_54
set_option maxRecDepth 100000 in
set_option maxHeartbeats 4000000 in
theorem w_X7_methods_j44_7 {K : Cx} {g : Gw} (ret : St) (X : XC K g cX7_methods 6 RX7 none rm_X7_methods) (x1 : Int32) (x2 : Int32) (x3 : Int32) (u : St) (r : ((St) ⊕ (St)) ⊕ (Int32 × St)) (h : f_X7_methods_j44_7 x1 x2 x3 u = some r) (k0 : ∀ q, r = .inl q → E_X7_methods_7 x1 K g ret q) (k1 : ∀ q, r = .inr q → H_X7_methods_7 x1 K g ret q) : XW K 0 0 6 (QV K g (wdM g) ret) (wdM g) u 44 [(0, .ref (g.1 0)), (1, .int x1), (2, .int x2), (3, .int x3)] [] := by
  unfold f_X7_methods_j44_7 at h
  refine x_iconst (v := 0) X dX7_methods_44 (by decide) ?_
  exact w_X7_methods_j45_7 ret X x1 x2 x3 0 u r h k0 k1
set_option maxRecDepth 100000 in
set_option maxHeartbeats 4000000 in
theorem w_X7_methods_b7 {K : Cx} {g : Gw} (x1 : Int32) (ret : St) (X : XC K g cX7_methods 6 RX7 none rm_X7_methods) (a : Int32 × St) (r : ((St) ⊕ (St)) ⊕ (Int32 × St)) (h : f_X7_methods_b7 x1 a = some r) (k0 : ∀ q, r = .inl q → E_X7_methods_7 x1 K g ret q) (k1 : ∀ q, r = .inr q → H_X7_methods_7 x1 K g ret q) : H_X7_methods_7 x1 K g ret a := by
  unfold f_X7_methods_b7 at h
  show XW K 0 0 6 (QV K g (wdM g) ret) (wdM g) a.2 7 [(0, .ref (g.1 0)), (1, .int x1), (2, .int a.1)] []
  refine x_iload_n X dX7_methods_7 rfl 2 rfl ?_
  refine x_iload_n X dX7_methods_8 rfl 1 rfl ?_
  refine x_icmp_ge (tgt := 126) X dX7_methods_9 (by decide) (fun c2 => ?_) (fun c2 => ?_)
  · replace h := if_t c2 h
    refine x_sub [] rfl ?_
    have h9 := k0 _ (Option.some.inj h).symm
    exact h9
  · replace h := if_f c2 h
    refine x_aload_n X dX7_methods_12 rfl 0 rfl ?_
    refine x_get (v := .int (a.2 7 0)) X 0 9 in_X7 rfl rfl (by decide) m_X7_71 rfl dX7_methods_13 ?_
    refine x_if_ne (tgt := 126) X dX7_methods_16 (by decide) (fun c3 => ?_) (fun c3 => ?_)
    · replace h := if_f c3 h
      refine x_sub [] rfl ?_
      have h9 := k0 _ (Option.some.inj h).symm
      exact h9
    · replace h := if_t c3 h
      refine x_aload_n X dX7_methods_19 rfl 0 rfl ?_
      refine x_iload_n X dX7_methods_20 rfl 2 rfl ?_
      refine x_iconst (v := 1) X dX7_methods_21 (by decide) ?_
      obtain ⟨q4, e4, h⟩ := bd h
      refine x_callI X [.int a.1, .int 1] [] (c_X7_member K.l K.D g a.1 1 a.2 q4 e4) ok_X7_member m_X7_185 0 rfl rfl rfl rfl (Nat.le_of_ble_eq_true rfl) ⟨Nat.zero_le _, Nat.zero_le _⟩ ⟨rfl, rfl, by decide, by decide⟩ dX7_methods_22 ?_
      refine x_istore_n (lv2 := [(3, .int q4.1), (0, .ref (g.1 0)), (1, .int x1), (2, .int a.1)]) X dX7_methods_25 rfl (by decide) rfl ?_
      refine x_aload_n X dX7_methods_26 rfl 1 rfl ?_
      refine x_get (v := .int (q4.2 7 0)) X 0 9 in_X7 rfl rfl (by decide) m_X7_71 rfl dX7_methods_27 ?_
      refine x_if_ne (tgt := 44) X dX7_methods_30 (by decide) (fun c5 => ?_) (fun c5 => ?_)
      · replace h := if_f c5 h
        refine x_sub [1, 2, 3, 0] rfl ?_
        exact w_X7_methods_j44_7 ret X x1 a.1 q4.1 q4.2 r h k0 k1
      · replace h := if_t c5 h
        refine x_aload_n X dX7_methods_33 rfl 1 rfl ?_
        obtain ⟨q15, e15, h⟩ := bd h
        refine x_callI X [] [] (c_X7_methodAttributes K.l K.D g q4.2 q15 e15) ok_X7_methodAttributes m_X7_193 0 rfl rfl rfl rfl (Nat.le_of_ble_eq_true rfl) ⟨Nat.zero_le _, Nat.zero_le _⟩ ⟨rfl, rfl, by decide, by decide⟩ dX7_methods_34 ?_
        refine x_if_eq (tgt := 44) X dX7_methods_37 (by decide) (fun c16 => ?_) (fun c16 => ?_)
        · replace h := if_t c16 h
          refine x_sub [1, 2, 3, 0] rfl ?_
          exact w_X7_methods_j44_7 ret X x1 a.1 q4.1 q15.2 r h k0 k1
        · replace h := if_f c16 h
          refine x_iconst (v := 1) X dX7_methods_40 (by decide) ?_
          refine x_goto (tgt := 45) X dX7_methods_41 (by decide) ?_
          refine x_sub [1, 2, 3, 0] rfl ?_
          exact w_X7_methods_j45_7 ret X x1 a.1 q4.1 1 q15.2 r h k0 k1
set_option maxRecDepth 100000 in
set_option maxHeartbeats 4000000 in
theorem w_X7_methods_j126 {K : Cx} {g : Gw} (ret : St) (X : XC K g cX7_methods 6 RX7 none rm_X7_methods) (u : St) (h : f_X7_methods_j126 u = some ret) : XW K 0 0 6 (QV K g (wdM g) ret) (wdM g) u 126 [] [] := by
  unfold f_X7_methods_j126 at h
  exact x_vret X (Option.some.inj h) dX7_methods_126
set_option maxRecDepth 100000 in
set_option maxHeartbeats 4000000 in
theorem c_X7_methods (l : Launch) (D : va_G) (g : Gw) (u : St) (ret : St) (h : f_X7_methods u = some ret) : metV l D g (wdM g) yX7_methods cX7_methods 6 rm_X7_methods [.ref (g.1 0)] u ret := by
  refine metV_of (own := RX7) (lv := [(0, .ref (g.1 0))]) (by decide) rfl rfl (Nat.le_of_ble_eq_true rfl) (fun K hl9 hD9 X => ?_)
  subst hl9
  subst hD9
  unfold f_X7_methods at h
  refine x_aload_n X dX7_methods_0 rfl 0 rfl ?_
  obtain ⟨q1, e1, h⟩ := bd h
  refine x_callI X [] [] (c_X7_u2 K.l K.D g u q1 e1) ok_X7_u2 m_X7_130 0 rfl rfl rfl rfl (Nat.le_of_ble_eq_true rfl) ⟨Nat.zero_le _, Nat.zero_le _⟩ ⟨rfl, rfl, by decide, by decide⟩ dX7_methods_1 ?_
  refine x_istore_n (lv2 := [(1, .int q1.1), (0, .ref (g.1 0))]) X dX7_methods_4 rfl (by decide) rfl ?_
  refine x_iconst (v := 0) X dX7_methods_5 (by decide) ?_
  refine x_istore_n (lv2 := [(2, .int 0), (1, .int q1.1), (0, .ref (g.1 0))]) X dX7_methods_6 rfl (by decide) rfl ?_
  refine x_sub [2, 1, 0] rfl ?_
  obtain ⟨q170, e17, h⟩ := bd h
  refine loopF_w (WH := H_X7_methods_7 q1.1 K g ret) (KB := E_X7_methods_7 q1.1 K g ret) (fun a9 r9 h9 k8 k7 => w_X7_methods_b7 q1.1 ret X a9 r9 h9 k8 k7) FU (0, q1.2) q170 e17 ?_
  rcases q170 with q17 | q17
  · replace h := sl h
    exact (Option.some.inj h)
  · replace h := sr h
    show XW K 0 0 6 (QV K g (wdM g) ret) (wdM g) q17 126 [] []
    exact w_X7_methods_j126 ret X q17 h
abbrev H_X7_run_43 (K : Cx) (g : Gw) (ret : Int32 × St) (a : Int32 × St) : Prop := XW K 0 0 2 (QI K g (wdM g) ret) (wdM g) a.2 43 [(0, .ref (g.1 0)), (1, .int a.1)] []
abbrev E_X7_run_43 (K : Cx) (g : Gw) (ret : Int32 × St) (q : (Int32 × St) ⊕ (St)) : Prop := Sum.elim (fun q => q = ret) (fun q => XW K 0 0 2 (QI K g (wdM g) ret) (wdM g) q 62 [(0, .ref (g.1 0))] []) q
set_option maxRecDepth 100000 in
set_option maxHeartbeats 4000000 in
theorem w_X7_run_b43 {K : Cx} {g : Gw} (ret : Int32 × St) (X : XC K g cX7_run 2 RX7 (some .int) rm_X7_run) (a : Int32 × St) (r : ((Int32 × St) ⊕ (St)) ⊕ (Int32 × St)) (h : f_X7_run_b43 a = some r) (k0 : ∀ q, r = .inl q → E_X7_run_43 K g ret q) (k1 : ∀ q, r = .inr q → H_X7_run_43 K g ret q) : H_X7_run_43 K g ret a := by
  unfold f_X7_run_b43 at h
  show XW K 0 0 2 (QI K g (wdM g) ret) (wdM g) a.2 43 [(0, .ref (g.1 0)), (1, .int a.1)] []
  refine x_iload_n X dX7_run_43 rfl 1 rfl ?_
  refine x_bipush (v := 7) X dX7_run_44 (by decide) ?_
  refine x_icmp_ge (tgt := 62) X dX7_run_46 (by decide) (fun c1 => ?_) (fun c1 => ?_)
  · replace h := if_t c1 h
    refine x_sub [0] rfl ?_
    have h9 := k0 _ (Option.some.inj h).symm
    exact h9
  · replace h := if_f c1 h
    refine x_aload_n X dX7_run_49 rfl 0 rfl ?_
    refine x_get (v := .ref (g.1 3)) X 0 11 in_X7 rfl rfl (by decide) m_X7_16 rfl dX7_run_50 ?_
    refine x_iload_n X dX7_run_53 rfl 1 rfl ?_
    refine x_iconst (v := 0) X dX7_run_54 (by decide) ?_
    obtain ⟨i2, h⟩ := chk_some h
    refine x_iast (f := (a.2 32)) (u2 := (up a.2 32 (Int32.toNatClampNeg a.1) 0)) X 3 0 rfl rfl i2 (wdM_32 g a.2 (Int32.toNatClampNeg a.1) 0) dX7_run_55 ?_
    refine x_iinc (v := (a.1 + 1)) (lv2 := [(1, .int (a.1 + 1)), (0, .ref (g.1 0))]) X dX7_run_56 1 rfl rfl (by decide) rfl ?_
    refine x_goto (tgt := 43) X dX7_run_59 (by decide) ?_
    refine x_sub [1, 0] rfl ?_
    have h9 := k1 _ (Option.some.inj h).symm
    exact h9
set_option maxRecDepth 100000 in
set_option maxHeartbeats 4000000 in
theorem w_X7_run_j161 {K : Cx} {g : Gw} (ret : Int32 × St) (X : XC K g cX7_run 2 RX7 (some .int) rm_X7_run) (u : St) (h : f_X7_run_j161 u = some ret) : XW K 0 0 2 (QI K g (wdM g) ret) (wdM g) u 161 [(0, .ref (g.1 0))] [] := by
  unfold f_X7_run_j161 at h
  refine x_aload_n X dX7_run_161 rfl 0 rfl ?_
  refine x_get (v := .int (u 7 0)) X 0 9 in_X7 rfl rfl (by decide) m_X7_71 rfl dX7_run_162 ?_
  exact x_iret X (Option.some.inj h) dX7_run_165
set_option maxRecDepth 100000 in
set_option maxHeartbeats 4000000 in
theorem w_X7_run_j132 {K : Cx} {g : Gw} (ret : Int32 × St) (X : XC K g cX7_run 2 RX7 (some .int) rm_X7_run) (u : St) (h : f_X7_run_j132 u = some ret) : XW K 0 0 2 (QI K g (wdM g) ret) (wdM g) u 132 [(0, .ref (g.1 0))] [] := by
  unfold f_X7_run_j132 at h
  refine x_aload_n X dX7_run_132 rfl 0 rfl ?_
  refine x_get (v := .int (u 7 0)) X 0 9 in_X7 rfl rfl (by decide) m_X7_71 rfl dX7_run_133 ?_
  refine x_if_ne (tgt := 161) X dX7_run_136 (by decide) (fun c11 => ?_) (fun c11 => ?_)
  · replace h := if_f c11 h
    exact w_X7_run_j161 ret X u h
  · replace h := if_t c11 h
    refine x_aload_n X dX7_run_139 rfl 0 rfl ?_
    refine x_get (v := .int (u 3 0)) X 0 5 in_X7 rfl rfl (by decide) m_X7_77 rfl dX7_run_140 ?_
    refine x_aload_n X dX7_run_143 rfl 0 rfl ?_
    refine x_get (v := .int (u 0 0)) X 0 1 in_X7 rfl rfl (by decide) m_X7_59 rfl dX7_run_144 ?_
    refine x_icmp_ge (tgt := 161) X dX7_run_147 (by decide) (fun c12 => ?_) (fun c12 => ?_)
    · replace h := if_t c12 h
      exact w_X7_run_j161 ret X u h
    · replace h := if_f c12 h
      refine x_aload_n X dX7_run_150 rfl 0 rfl ?_
      refine x_bipush (v := 28) X dX7_run_151 (by decide) ?_
      refine x_aload_n X dX7_run_153 rfl 0 rfl ?_
      refine x_get (v := .int (u 3 0)) X 0 5 in_X7 rfl rfl (by decide) m_X7_77 rfl dX7_run_154 ?_
      obtain ⟨q13, e13, h⟩ := bd h
      refine x_callI X [.int 28, .int (u 3 0)] [] (c_X7_fail K.l K.D g 28 (u 3 0) u q13 e13) ok_X7_fail m_X7_89 0 rfl rfl rfl rfl (Nat.le_of_ble_eq_true rfl) ⟨Nat.zero_le _, Nat.zero_le _⟩ ⟨rfl, rfl, by decide, by decide⟩ dX7_run_157 ?_
      refine x_pop X dX7_run_160 rfl ?_
      exact w_X7_run_j161 ret X q13.2 h
set_option maxRecDepth 100000 in
set_option maxHeartbeats 4000000 in
theorem w_X7_run_j121 {K : Cx} {g : Gw} (ret : Int32 × St) (X : XC K g cX7_run 2 RX7 (some .int) rm_X7_run) (u : St) (h : f_X7_run_j121 u = some ret) : XW K 0 0 2 (QI K g (wdM g) ret) (wdM g) u 121 [(0, .ref (g.1 0))] [] := by
  unfold f_X7_run_j121 at h
  refine x_aload_n X dX7_run_121 rfl 0 rfl ?_
  refine x_get (v := .int (u 7 0)) X 0 9 in_X7 rfl rfl (by decide) m_X7_71 rfl dX7_run_122 ?_
  refine x_if_ne (tgt := 132) X dX7_run_125 (by decide) (fun c10 => ?_) (fun c10 => ?_)
  · replace h := if_f c10 h
    exact w_X7_run_j132 ret X u h
  · replace h := if_t c10 h
    refine x_aload_n X dX7_run_128 rfl 0 rfl ?_
    obtain ⟨q14, e14, h⟩ := bd h
    refine x_callV X [] [] (c_X7_attributes K.l K.D g u q14 e14) ok_X7_attributes m_X7_220 0 rfl rfl rfl rfl (Nat.le_of_ble_eq_true rfl) ⟨Nat.zero_le _, Nat.zero_le _⟩ ⟨rfl, rfl, by decide, by decide⟩ dX7_run_129 ?_
    exact w_X7_run_j132 ret X q14 h
set_option maxRecDepth 100000 in
set_option maxHeartbeats 4000000 in
theorem w_X7_run_j110 {K : Cx} {g : Gw} (ret : Int32 × St) (X : XC K g cX7_run 2 RX7 (some .int) rm_X7_run) (u : St) (h : f_X7_run_j110 u = some ret) : XW K 0 0 2 (QI K g (wdM g) ret) (wdM g) u 110 [(0, .ref (g.1 0))] [] := by
  unfold f_X7_run_j110 at h
  refine x_aload_n X dX7_run_110 rfl 0 rfl ?_
  refine x_get (v := .int (u 7 0)) X 0 9 in_X7 rfl rfl (by decide) m_X7_71 rfl dX7_run_111 ?_
  refine x_if_ne (tgt := 121) X dX7_run_114 (by decide) (fun c9 => ?_) (fun c9 => ?_)
  · replace h := if_f c9 h
    exact w_X7_run_j121 ret X u h
  · replace h := if_t c9 h
    refine x_aload_n X dX7_run_117 rfl 0 rfl ?_
    obtain ⟨q15, e15, h⟩ := bd h
    refine x_callV X [] [] (c_X7_methods K.l K.D g u q15 e15) ok_X7_methods m_X7_285 0 rfl rfl rfl rfl (Nat.le_of_ble_eq_true rfl) ⟨Nat.zero_le _, Nat.zero_le _⟩ ⟨rfl, rfl, by decide, by decide⟩ dX7_run_118 ?_
    exact w_X7_run_j121 ret X q15 h
set_option maxRecDepth 100000 in
set_option maxHeartbeats 4000000 in
theorem w_X7_run_j99 {K : Cx} {g : Gw} (ret : Int32 × St) (X : XC K g cX7_run 2 RX7 (some .int) rm_X7_run) (u : St) (h : f_X7_run_j99 u = some ret) : XW K 0 0 2 (QI K g (wdM g) ret) (wdM g) u 99 [(0, .ref (g.1 0))] [] := by
  unfold f_X7_run_j99 at h
  refine x_aload_n X dX7_run_99 rfl 0 rfl ?_
  refine x_get (v := .int (u 7 0)) X 0 9 in_X7 rfl rfl (by decide) m_X7_71 rfl dX7_run_100 ?_
  refine x_if_ne (tgt := 110) X dX7_run_103 (by decide) (fun c8 => ?_) (fun c8 => ?_)
  · replace h := if_f c8 h
    exact w_X7_run_j110 ret X u h
  · replace h := if_t c8 h
    refine x_aload_n X dX7_run_106 rfl 0 rfl ?_
    obtain ⟨q16, e16, h⟩ := bd h
    refine x_callV X [] [] (c_X7_fields K.l K.D g u q16 e16) ok_X7_fields m_X7_282 0 rfl rfl rfl rfl (Nat.le_of_ble_eq_true rfl) ⟨Nat.zero_le _, Nat.zero_le _⟩ ⟨rfl, rfl, by decide, by decide⟩ dX7_run_107 ?_
    exact w_X7_run_j110 ret X q16 h
set_option maxRecDepth 100000 in
set_option maxHeartbeats 4000000 in
theorem w_X7_run_j88 {K : Cx} {g : Gw} (ret : Int32 × St) (X : XC K g cX7_run 2 RX7 (some .int) rm_X7_run) (u : St) (h : f_X7_run_j88 u = some ret) : XW K 0 0 2 (QI K g (wdM g) ret) (wdM g) u 88 [(0, .ref (g.1 0))] [] := by
  unfold f_X7_run_j88 at h
  refine x_aload_n X dX7_run_88 rfl 0 rfl ?_
  refine x_get (v := .int (u 7 0)) X 0 9 in_X7 rfl rfl (by decide) m_X7_71 rfl dX7_run_89 ?_
  refine x_if_ne (tgt := 99) X dX7_run_92 (by decide) (fun c7 => ?_) (fun c7 => ?_)
  · replace h := if_f c7 h
    exact w_X7_run_j99 ret X u h
  · replace h := if_t c7 h
    refine x_aload_n X dX7_run_95 rfl 0 rfl ?_
    obtain ⟨q17, e17, h⟩ := bd h
    refine x_callV X [] [] (c_X7_top K.l K.D g u q17 e17) ok_X7_top m_X7_279 0 rfl rfl rfl rfl (Nat.le_of_ble_eq_true rfl) ⟨Nat.zero_le _, Nat.zero_le _⟩ ⟨rfl, rfl, by decide, by decide⟩ dX7_run_96 ?_
    exact w_X7_run_j99 ret X q17 h
set_option maxRecDepth 100000 in
set_option maxHeartbeats 4000000 in
theorem w_X7_run_j77 {K : Cx} {g : Gw} (ret : Int32 × St) (X : XC K g cX7_run 2 RX7 (some .int) rm_X7_run) (u : St) (h : f_X7_run_j77 u = some ret) : XW K 0 0 2 (QI K g (wdM g) ret) (wdM g) u 77 [(0, .ref (g.1 0))] [] := by
  unfold f_X7_run_j77 at h
  refine x_aload_n X dX7_run_77 rfl 0 rfl ?_
  refine x_get (v := .int (u 7 0)) X 0 9 in_X7 rfl rfl (by decide) m_X7_71 rfl dX7_run_78 ?_
  refine x_if_ne (tgt := 88) X dX7_run_81 (by decide) (fun c6 => ?_) (fun c6 => ?_)
  · replace h := if_f c6 h
    exact w_X7_run_j88 ret X u h
  · replace h := if_t c6 h
    refine x_aload_n X dX7_run_84 rfl 0 rfl ?_
    obtain ⟨q18, e18, h⟩ := bd h
    refine x_callV X [] [] (c_X7_checkPool K.l K.D g u q18 e18) ok_X7_checkPool m_X7_276 0 rfl rfl rfl rfl (Nat.le_of_ble_eq_true rfl) ⟨Nat.zero_le _, Nat.zero_le _⟩ ⟨rfl, rfl, by decide, by decide⟩ dX7_run_85 ?_
    exact w_X7_run_j88 ret X q18 h
set_option maxRecDepth 100000 in
set_option maxHeartbeats 4000000 in
theorem c_X7_run (l : Launch) (D : va_G) (g : Gw) (u : St) (ret : Int32 × St) (h : f_X7_run u = some ret) : metI l D g (wdM g) yX7_run cX7_run 2 .int rm_X7_run [.ref (g.1 0)] u ret := by
  refine metI_of (own := RX7) (lv := [(0, .ref (g.1 0))]) (by decide) rfl rfl (Nat.le_of_ble_eq_true rfl) (fun K hl9 hD9 X => ?_)
  subst hl9
  subst hD9
  unfold f_X7_run at h
  refine x_aload_n X dX7_run_0 rfl 0 rfl ?_
  refine x_iconst (v := 1) X dX7_run_1 (by decide) ?_
  refine x_put (ty := .boolean) (u2 := (up u 2 0 1)) X 0 4 in_X7 tk_X7 nk_X7 rfl rfl (by decide) m_X7_266 rfl rfl rfl rfl (Nat.le_of_ble_eq_true rfl) (wdM_2 g u 1) dX7_run_2 ?_
  refine x_aload_n X dX7_run_5 rfl 0 rfl ?_
  refine x_iconst (v := 0) X dX7_run_6 (by decide) ?_
  refine x_put (ty := .int) (u2 := (up (up u 2 0 1) 7 0 0)) X 0 9 in_X7 tk_X7 nk_X7 rfl rfl (by decide) m_X7_71 rfl rfl rfl rfl (Nat.le_of_ble_eq_true rfl) (wdM_7 g (up u 2 0 1) 0) dX7_run_7 ?_
  refine x_aload_n X dX7_run_10 rfl 0 rfl ?_
  refine x_iconst (v := 0) X dX7_run_11 (by decide) ?_
  refine x_put (ty := .int) (u2 := (up (up (up u 2 0 1) 7 0 0) 3 0 0)) X 0 5 in_X7 tk_X7 nk_X7 rfl rfl (by decide) m_X7_77 rfl rfl rfl rfl (Nat.le_of_ble_eq_true rfl) (wdM_3 g (up (up u 2 0 1) 7 0 0) 0) dX7_run_12 ?_
  refine x_aload_n X dX7_run_15 rfl 0 rfl ?_
  refine x_aload_n X dX7_run_16 rfl 0 rfl ?_
  refine x_get (v := .int (u 0 0)) X 0 1 in_X7 rfl rfl (by decide) m_X7_59 rfl dX7_run_17 ?_
  refine x_put (ty := .int) (u2 := (up (up (up (up u 2 0 1) 7 0 0) 3 0 0) 4 0 (u 0 0))) X 0 6 in_X7 tk_X7 nk_X7 rfl rfl (by decide) m_X7_80 rfl rfl rfl rfl (Nat.le_of_ble_eq_true rfl) (wdM_4 g (up (up (up u 2 0 1) 7 0 0) 3 0 0) (u 0 0)) dX7_run_20 ?_
  refine x_aload_n X dX7_run_23 rfl 0 rfl ?_
  refine x_iconst (v := 1) X dX7_run_24 (by decide) ?_
  refine x_put (ty := .int) (u2 := (up (up (up (up (up u 2 0 1) 7 0 0) 3 0 0) 4 0 (u 0 0)) 5 0 1)) X 0 7 in_X7 tk_X7 nk_X7 rfl rfl (by decide) m_X7_83 rfl rfl rfl rfl (Nat.le_of_ble_eq_true rfl) (wdM_5 g (up (up (up (up u 2 0 1) 7 0 0) 3 0 0) 4 0 (u 0 0)) 1) dX7_run_25 ?_
  refine x_aload_n X dX7_run_28 rfl 0 rfl ?_
  refine x_aload_n X dX7_run_29 rfl 0 rfl ?_
  refine x_get (v := .int (u 0 0)) X 0 1 in_X7 rfl rfl (by decide) m_X7_59 rfl dX7_run_30 ?_
  refine x_put (ty := .int) (u2 := (up (up (up (up (up (up u 2 0 1) 7 0 0) 3 0 0) 4 0 (u 0 0)) 5 0 1) 6 0 (u 0 0))) X 0 8 in_X7 tk_X7 nk_X7 rfl rfl (by decide) m_X7_86 rfl rfl rfl rfl (Nat.le_of_ble_eq_true rfl) (wdM_6 g (up (up (up (up (up u 2 0 1) 7 0 0) 3 0 0) 4 0 (u 0 0)) 5 0 1) (u 0 0)) dX7_run_33 ?_
  refine x_aload_n X dX7_run_36 rfl 0 rfl ?_
  refine x_iconst (v := 0) X dX7_run_37 (by decide) ?_
  refine x_put (ty := .int) (u2 := (up (up (up (up (up (up (up u 2 0 1) 7 0 0) 3 0 0) 4 0 (u 0 0)) 5 0 1) 6 0 (u 0 0)) 9 0 0)) X 0 16 in_X7 tk_X7 nk_X7 rfl rfl (by decide) m_X7_98 rfl rfl rfl rfl (Nat.le_of_ble_eq_true rfl) (wdM_9 g (up (up (up (up (up (up u 2 0 1) 7 0 0) 3 0 0) 4 0 (u 0 0)) 5 0 1) 6 0 (u 0 0)) 0) dX7_run_38 ?_
  refine x_iconst (v := 0) X dX7_run_41 (by decide) ?_
  refine x_istore_n (lv2 := [(1, .int 0), (0, .ref (g.1 0))]) X dX7_run_42 rfl (by decide) rfl ?_
  refine x_sub [1, 0] rfl ?_
  obtain ⟨q30, e3, h⟩ := bd h
  refine loopF_w (WH := H_X7_run_43 K g ret) (KB := E_X7_run_43 K g ret) (fun a9 r9 h9 k8 k7 => w_X7_run_b43 ret X a9 r9 h9 k8 k7) FU (0, (up (up (up (up (up (up (up u 2 0 1) 7 0 0) 3 0 0) 4 0 (u 0 0)) 5 0 1) 6 0 (u 0 0)) 9 0 0)) q30 e3 ?_
  rcases q30 with q3 | q3
  · replace h := sl h
    exact (Option.some.inj h)
  · replace h := sr h
    show XW K 0 0 2 (QI K g (wdM g) ret) (wdM g) q3 62 [(0, .ref (g.1 0))] []
    refine x_aload_n X dX7_run_62 rfl 0 rfl ?_
    obtain ⟨q4, e4, h⟩ := bd h
    refine x_callV X [] [] (c_X7_header K.l K.D g q3 q4 e4) ok_X7_header m_X7_270 0 rfl rfl rfl rfl (Nat.le_of_ble_eq_true rfl) ⟨Nat.zero_le _, Nat.zero_le _⟩ ⟨rfl, rfl, by decide, by decide⟩ dX7_run_63 ?_
    refine x_aload_n X dX7_run_66 rfl 0 rfl ?_
    refine x_get (v := .int (q4 7 0)) X 0 9 in_X7 rfl rfl (by decide) m_X7_71 rfl dX7_run_67 ?_
    refine x_if_ne (tgt := 77) X dX7_run_70 (by decide) (fun c5 => ?_) (fun c5 => ?_)
    · replace h := if_f c5 h
      exact w_X7_run_j77 ret X q4 h
    · replace h := if_t c5 h
      refine x_aload_n X dX7_run_73 rfl 0 rfl ?_
      obtain ⟨q19, e19, h⟩ := bd h
      refine x_callV X [] [] (c_X7_readPool K.l K.D g q4 q19 e19) ok_X7_readPool m_X7_273 0 rfl rfl rfl rfl (Nat.le_of_ble_eq_true rfl) ⟨Nat.zero_le _, Nat.zero_le _⟩ ⟨rfl, rfl, by decide, by decide⟩ dX7_run_74 ?_
      exact w_X7_run_j77 ret X q19 h
