abbrev H_X7_judgeCode_6 (K : Cx) (g : Gw) (ret : St) (a : Int32 × St) : Prop := XW K 0 0 3 (QV K g (wdM g) ret) (wdM g) a.2 6 [(0, .ref (g.1 0)), (1, .int a.1)] []
abbrev E_X7_judgeCode_6 (K : Cx) (g : Gw) (ret : St) (q : (St) ⊕ (St)) : Prop := Sum.elim (fun q => q = ret) (fun q => XW K 0 0 3 (QV K g (wdM g) ret) (wdM g) q 57 [(0, .ref (g.1 0))] []) q
set_option maxRecDepth 100000 in
set_option maxHeartbeats 4000000 in
theorem w_X7_judgeCode_j51_6 {K : Cx} {g : Gw} (ret : St) (X : XC K g cX7_judgeCode 3 RX7 none rm_X7_judgeCode) (x1 : Int32) (u : St) (r : ((St) ⊕ (St)) ⊕ (Int32 × St)) (h : f_X7_judgeCode_j51_6 x1 u = some r) (k0 : ∀ q, r = .inl q → E_X7_judgeCode_6 K g ret q) (k1 : ∀ q, r = .inr q → H_X7_judgeCode_6 K g ret q) : XW K 0 0 3 (QV K g (wdM g) ret) (wdM g) u 51 [(0, .ref (g.1 0)), (1, .int x1)] [] := by
  unfold f_X7_judgeCode_j51_6 at h
  refine x_iinc (v := (x1 + 1)) (lv2 := [(1, .int (x1 + 1)), (0, .ref (g.1 0))]) X dX7_judgeCode_51 1 rfl rfl (by decide) rfl ?_
  refine x_goto (tgt := 6) X dX7_judgeCode_54 (by decide) ?_
  refine x_sub [1, 0] rfl ?_
  have h9 := k1 _ (Option.some.inj h).symm
  exact h9
set_option maxRecDepth 100000 in
set_option maxHeartbeats 4000000 in
theorem w_X7_judgeCode_b6 {K : Cx} {g : Gw} (ret : St) (X : XC K g cX7_judgeCode 3 RX7 none rm_X7_judgeCode) (a : Int32 × St) (r : ((St) ⊕ (St)) ⊕ (Int32 × St)) (h : f_X7_judgeCode_b6 a = some r) (k0 : ∀ q, r = .inl q → E_X7_judgeCode_6 K g ret q) (k1 : ∀ q, r = .inr q → H_X7_judgeCode_6 K g ret q) : H_X7_judgeCode_6 K g ret a := by
  unfold f_X7_judgeCode_b6 at h
  show XW K 0 0 3 (QV K g (wdM g) ret) (wdM g) a.2 6 [(0, .ref (g.1 0)), (1, .int a.1)] []
  refine x_iload_n X dX7_judgeCode_6 rfl 1 rfl ?_
  refine x_aload_n X dX7_judgeCode_7 rfl 0 rfl ?_
  refine x_get (v := .int (a.2 11 0)) X 0 22 in_X7 rfl rfl (by decide) m_X7_206 rfl dX7_judgeCode_8 ?_
  refine x_icmp_ge (tgt := 57) X dX7_judgeCode_11 (by decide) (fun c2 => ?_) (fun c2 => ?_)
  · replace h := if_t c2 h
    refine x_sub [0] rfl ?_
    have h9 := k0 _ (Option.some.inj h).symm
    exact h9
  · replace h := if_f c2 h
    refine x_aload_n X dX7_judgeCode_14 rfl 0 rfl ?_
    refine x_get (v := .int (a.2 7 0)) X 0 9 in_X7 rfl rfl (by decide) m_X7_71 rfl dX7_judgeCode_15 ?_
    refine x_if_ne (tgt := 57) X dX7_judgeCode_18 (by decide) (fun c3 => ?_) (fun c3 => ?_)
    · replace h := if_f c3 h
      refine x_sub [0] rfl ?_
      have h9 := k0 _ (Option.some.inj h).symm
      exact h9
    · replace h := if_t c3 h
      refine x_aload_n X dX7_judgeCode_21 rfl 0 rfl ?_
      refine x_get (v := .ref (g.1 11)) X 0 20 in_X7 rfl rfl (by decide) m_X7_40 rfl dX7_judgeCode_22 ?_
      refine x_iload_n X dX7_judgeCode_25 rfl 1 rfl ?_
      obtain ⟨i4, h⟩ := chk_some h
      refine x_zald (f := (a.2 40)) X 11 1 rfl rfl i4 dX7_judgeCode_26 ?_
      refine x_if_eq (tgt := 51) X dX7_judgeCode_27 (by decide) (fun c5 => ?_) (fun c5 => ?_)
      · replace h := if_t c5 h
        exact w_X7_judgeCode_j51_6 ret X a.1 a.2 r h k0 k1
      · replace h := if_f c5 h
        refine x_aload_n X dX7_judgeCode_30 rfl 0 rfl ?_
        refine x_iload_n X dX7_judgeCode_31 rfl 1 rfl ?_
        obtain ⟨q6, e6, h⟩ := bd h
        refine x_callR X [.int a.1] [] (c_X7_jumpsFit K.l K.D g a.1 a.2 q6 e6) ok_X7_jumpsFit m_X7_260 0 rfl rfl rfl rfl (Nat.le_of_ble_eq_true rfl) ⟨Nat.zero_le _, Nat.zero_le _⟩ ⟨rfl, rfl, by decide, by decide⟩ dX7_judgeCode_32 ?_
        refine x_if_ne (tgt := 51) X dX7_judgeCode_35 (by decide) (fun c7 => ?_) (fun c7 => ?_)
        · replace h := if_f c7 h
          exact w_X7_judgeCode_j51_6 ret X a.1 a.2 r h k0 k1
        · replace h := if_t c7 h
          refine x_aload_n X dX7_judgeCode_38 rfl 0 rfl ?_
          refine x_bipush (v := 25) X dX7_judgeCode_39 (by decide) ?_
          refine x_aload_n X dX7_judgeCode_41 rfl 0 rfl ?_
          refine x_get (v := .int (a.2 10 0)) X 0 21 in_X7 rfl rfl (by decide) m_X7_209 rfl dX7_judgeCode_42 ?_
          refine x_iload_n X dX7_judgeCode_45 rfl 1 rfl ?_
          refine x_iadd X dX7_judgeCode_46 ?_
          obtain ⟨q8, e8, h⟩ := bd h
          refine x_callI X [.int 25, .int ((a.2 10 0) + a.1)] [] (c_X7_fail K.l K.D g 25 ((a.2 10 0) + a.1) a.2 q8 e8) ok_X7_fail m_X7_89 0 rfl rfl rfl rfl (Nat.le_of_ble_eq_true rfl) ⟨Nat.zero_le _, Nat.zero_le _⟩ ⟨rfl, rfl, by decide, by decide⟩ dX7_judgeCode_47 ?_
          refine x_pop X dX7_judgeCode_50 rfl ?_
          exact w_X7_judgeCode_j51_6 ret X a.1 q8.2 r h k0 k1
abbrev H_X7_judgeCode_127 (K : Cx) (g : Gw) (ret : St) (a : Int32 × St) : Prop := XW K 0 0 3 (QV K g (wdM g) ret) (wdM g) a.2 127 [(0, .ref (g.1 0)), (2, .int a.1)] []
abbrev E_X7_judgeCode_127 (K : Cx) (g : Gw) (ret : St) (q : (St) ⊕ (St)) : Prop := Sum.elim (fun q => q = ret) (fun q => XW K 0 0 3 (QV K g (wdM g) ret) (wdM g) q 172 [] []) q
set_option maxRecDepth 100000 in
set_option maxHeartbeats 4000000 in
theorem w_X7_judgeCode_j166_127 {K : Cx} {g : Gw} (ret : St) (X : XC K g cX7_judgeCode 3 RX7 none rm_X7_judgeCode) (x2 : Int32) (u : St) (r : ((St) ⊕ (St)) ⊕ (Int32 × St)) (h : f_X7_judgeCode_j166_127 x2 u = some r) (k0 : ∀ q, r = .inl q → E_X7_judgeCode_127 K g ret q) (k1 : ∀ q, r = .inr q → H_X7_judgeCode_127 K g ret q) : XW K 0 0 3 (QV K g (wdM g) ret) (wdM g) u 166 [(0, .ref (g.1 0)), (2, .int x2)] [] := by
  unfold f_X7_judgeCode_j166_127 at h
  refine x_iinc (v := (x2 + 1)) (lv2 := [(2, .int (x2 + 1)), (0, .ref (g.1 0))]) X dX7_judgeCode_166 1 rfl rfl (by decide) rfl ?_
  refine x_goto (tgt := 127) X dX7_judgeCode_169 (by decide) ?_
  refine x_sub [1, 0] rfl ?_
  have h9 := k1 _ (Option.some.inj h).symm
  exact h9
set_option maxRecDepth 100000 in
set_option maxHeartbeats 4000000 in
theorem w_X7_judgeCode_b127 {K : Cx} {g : Gw} (ret : St) (X : XC K g cX7_judgeCode 3 RX7 none rm_X7_judgeCode) (a : Int32 × St) (r : ((St) ⊕ (St)) ⊕ (Int32 × St)) (h : f_X7_judgeCode_b127 a = some r) (k0 : ∀ q, r = .inl q → E_X7_judgeCode_127 K g ret q) (k1 : ∀ q, r = .inr q → H_X7_judgeCode_127 K g ret q) : H_X7_judgeCode_127 K g ret a := by
  unfold f_X7_judgeCode_b127 at h
  show XW K 0 0 3 (QV K g (wdM g) ret) (wdM g) a.2 127 [(0, .ref (g.1 0)), (2, .int a.1)] []
  refine x_iload_n X dX7_judgeCode_127 rfl 1 rfl ?_
  refine x_aload_n X dX7_judgeCode_128 rfl 0 rfl ?_
  refine x_get (v := .int (a.2 14 0)) X 0 25 in_X7 rfl rfl (by decide) m_X7_212 rfl dX7_judgeCode_129 ?_
  refine x_icmp_ge (tgt := 172) X dX7_judgeCode_132 (by decide) (fun c13 => ?_) (fun c13 => ?_)
  · replace h := if_t c13 h
    refine x_sub [] rfl ?_
    have h9 := k0 _ (Option.some.inj h).symm
    exact h9
  · replace h := if_f c13 h
    refine x_aload_n X dX7_judgeCode_135 rfl 0 rfl ?_
    refine x_get (v := .int (a.2 7 0)) X 0 9 in_X7 rfl rfl (by decide) m_X7_71 rfl dX7_judgeCode_136 ?_
    refine x_if_ne (tgt := 172) X dX7_judgeCode_139 (by decide) (fun c14 => ?_) (fun c14 => ?_)
    · replace h := if_f c14 h
      refine x_sub [] rfl ?_
      have h9 := k0 _ (Option.some.inj h).symm
      exact h9
    · replace h := if_t c14 h
      refine x_aload_n X dX7_judgeCode_142 rfl 0 rfl ?_
      refine x_iload_n X dX7_judgeCode_143 rfl 1 rfl ?_
      obtain ⟨q15, e15, h⟩ := bd h
      refine x_callR X [.int a.1] [] (c_X7_handlerFits K.l K.D g a.1 a.2 q15 e15) ok_X7_handlerFits m_X7_263 0 rfl rfl rfl rfl (Nat.le_of_ble_eq_true rfl) ⟨Nat.zero_le _, Nat.zero_le _⟩ ⟨rfl, rfl, by decide, by decide⟩ dX7_judgeCode_144 ?_
      refine x_if_ne (tgt := 166) X dX7_judgeCode_147 (by decide) (fun c16 => ?_) (fun c16 => ?_)
      · replace h := if_f c16 h
        exact w_X7_judgeCode_j166_127 ret X a.1 a.2 r h k0 k1
      · replace h := if_t c16 h
        refine x_aload_n X dX7_judgeCode_150 rfl 0 rfl ?_
        refine x_bipush (v := 27) X dX7_judgeCode_151 (by decide) ?_
        refine x_aload_n X dX7_judgeCode_153 rfl 0 rfl ?_
        refine x_get (v := .int (a.2 13 0)) X 0 24 in_X7 rfl rfl (by decide) m_X7_215 rfl dX7_judgeCode_154 ?_
        refine x_bipush (v := 8) X dX7_judgeCode_157 (by decide) ?_
        refine x_iload_n X dX7_judgeCode_159 rfl 1 rfl ?_
        refine x_imul X dX7_judgeCode_160 ?_
        refine x_iadd X dX7_judgeCode_161 ?_
        obtain ⟨q17, e17, h⟩ := bd h
        refine x_callI X [.int 27, .int ((a.2 13 0) + (8 * a.1))] [] (c_X7_fail K.l K.D g 27 ((a.2 13 0) + (8 * a.1)) a.2 q17 e17) ok_X7_fail m_X7_89 0 rfl rfl rfl rfl (Nat.le_of_ble_eq_true rfl) ⟨Nat.zero_le _, Nat.zero_le _⟩ ⟨rfl, rfl, by decide, by decide⟩ dX7_judgeCode_162 ?_
        refine x_pop X dX7_judgeCode_165 rfl ?_
        exact w_X7_judgeCode_j166_127 ret X a.1 q17.2 r h k0 k1
set_option maxRecDepth 100000 in
set_option maxHeartbeats 4000000 in
theorem w_X7_judgeCode_j172 {K : Cx} {g : Gw} (ret : St) (X : XC K g cX7_judgeCode 3 RX7 none rm_X7_judgeCode) (u : St) (h : f_X7_judgeCode_j172 u = some ret) : XW K 0 0 3 (QV K g (wdM g) ret) (wdM g) u 172 [] [] := by
  unfold f_X7_judgeCode_j172 at h
  exact x_vret X (Option.some.inj h) dX7_judgeCode_172
set_option maxRecDepth 100000 in
set_option maxHeartbeats 4000000 in
theorem w_X7_judgeCode_j125 {K : Cx} {g : Gw} (ret : St) (X : XC K g cX7_judgeCode 3 RX7 none rm_X7_judgeCode) (u : St) (h : f_X7_judgeCode_j125 u = some ret) : XW K 0 0 3 (QV K g (wdM g) ret) (wdM g) u 125 [(0, .ref (g.1 0))] [] := by
  unfold f_X7_judgeCode_j125 at h
  refine x_iconst (v := 0) X dX7_judgeCode_125 (by decide) ?_
  refine x_istore_n (lv2 := [(2, .int 0), (0, .ref (g.1 0))]) X dX7_judgeCode_126 rfl (by decide) rfl ?_
  refine x_sub [1, 0] rfl ?_
  obtain ⟨q180, e18, h⟩ := bd h
  refine loopF_w (WH := H_X7_judgeCode_127 K g ret) (KB := E_X7_judgeCode_127 K g ret) (fun a9 r9 h9 k8 k7 => w_X7_judgeCode_b127 ret X a9 r9 h9 k8 k7) FU (0, u) q180 e18 ?_
  rcases q180 with q18 | q18
  · replace h := sl h
    exact (Option.some.inj h)
  · replace h := sr h
    show XW K 0 0 3 (QV K g (wdM g) ret) (wdM g) q18 172 [] []
    exact w_X7_judgeCode_j172 ret X q18 h
set_option maxRecDepth 100000 in
set_option maxHeartbeats 4000000 in
theorem w_X7_judgeCode_j57 {K : Cx} {g : Gw} (ret : St) (X : XC K g cX7_judgeCode 3 RX7 none rm_X7_judgeCode) (u : St) (h : f_X7_judgeCode_j57 u = some ret) : XW K 0 0 3 (QV K g (wdM g) ret) (wdM g) u 57 [(0, .ref (g.1 0))] [] := by
  unfold f_X7_judgeCode_j57 at h
  refine x_aload_n X dX7_judgeCode_57 rfl 0 rfl ?_
  refine x_get (v := .int (u 7 0)) X 0 9 in_X7 rfl rfl (by decide) m_X7_71 rfl dX7_judgeCode_58 ?_
  refine x_if_eq (tgt := 65) X dX7_judgeCode_61 (by decide) (fun c10 => ?_) (fun c10 => ?_)
  · replace h := if_t c10 h
    refine x_aload_n X dX7_judgeCode_65 rfl 0 rfl ?_
    refine x_aload_n X dX7_judgeCode_66 rfl 0 rfl ?_
    refine x_get (v := .int (u 16 0)) X 0 27 in_X7 rfl rfl (by decide) m_X7_250 rfl dX7_judgeCode_67 ?_
    obtain ⟨q11, e11, h⟩ := bd h
    refine x_callR X [.int (u 16 0)] [] (c_X7_byteAt K.l K.D g (u 16 0) u q11 e11) ok_X7_byteAt m_X7_229 0 rfl rfl rfl rfl (Nat.le_of_ble_eq_true rfl) ⟨Nat.zero_le _, Nat.zero_le _⟩ ⟨rfl, rfl, by decide, by decide⟩ dX7_judgeCode_70 ?_
    refine x_istore_n (lv2 := [(1, .int q11), (0, .ref (g.1 0))]) X dX7_judgeCode_73 rfl (by decide) rfl ?_
    refine x_iload_n X dX7_judgeCode_74 rfl 0 rfl ?_
    refine x_sipush (v := 167) X dX7_judgeCode_75 (by decide) ?_
    refine x_icmp_eq (tgt := 125) X dX7_judgeCode_78 (by decide) (fun c12 => ?_) (fun c12 => ?_)
    · replace h := if_t c12 h
      refine x_sub [1] rfl ?_
      exact w_X7_judgeCode_j125 ret X u h
    · replace h := if_f c12 h
      refine x_iload_n X dX7_judgeCode_81 rfl 0 rfl ?_
      refine x_sipush (v := 170) X dX7_judgeCode_82 (by decide) ?_
      refine x_icmp_eq (tgt := 125) X dX7_judgeCode_85 (by decide) (fun c19 => ?_) (fun c19 => ?_)
      · replace h := if_t c19 h
        refine x_sub [1] rfl ?_
        exact w_X7_judgeCode_j125 ret X u h
      · replace h := if_f c19 h
        refine x_iload_n X dX7_judgeCode_88 rfl 0 rfl ?_
        refine x_sipush (v := 172) X dX7_judgeCode_89 (by decide) ?_
        refine x_icmp_eq (tgt := 125) X dX7_judgeCode_92 (by decide) (fun c20 => ?_) (fun c20 => ?_)
        · replace h := if_t c20 h
          refine x_sub [1] rfl ?_
          exact w_X7_judgeCode_j125 ret X u h
        · replace h := if_f c20 h
          refine x_iload_n X dX7_judgeCode_95 rfl 0 rfl ?_
          refine x_sipush (v := 177) X dX7_judgeCode_96 (by decide) ?_
          refine x_icmp_eq (tgt := 125) X dX7_judgeCode_99 (by decide) (fun c21 => ?_) (fun c21 => ?_)
          · replace h := if_t c21 h
            refine x_sub [1] rfl ?_
            exact w_X7_judgeCode_j125 ret X u h
          · replace h := if_f c21 h
            refine x_iload_n X dX7_judgeCode_102 rfl 0 rfl ?_
            refine x_sipush (v := 191) X dX7_judgeCode_103 (by decide) ?_
            refine x_icmp_eq (tgt := 125) X dX7_judgeCode_106 (by decide) (fun c22 => ?_) (fun c22 => ?_)
            · replace h := if_t c22 h
              refine x_sub [1] rfl ?_
              exact w_X7_judgeCode_j125 ret X u h
            · replace h := if_f c22 h
              refine x_aload_n X dX7_judgeCode_109 rfl 1 rfl ?_
              refine x_bipush (v := 26) X dX7_judgeCode_110 (by decide) ?_
              refine x_aload_n X dX7_judgeCode_112 rfl 1 rfl ?_
              refine x_get (v := .int (u 10 0)) X 0 21 in_X7 rfl rfl (by decide) m_X7_209 rfl dX7_judgeCode_113 ?_
              refine x_aload_n X dX7_judgeCode_116 rfl 1 rfl ?_
              refine x_get (v := .int (u 16 0)) X 0 27 in_X7 rfl rfl (by decide) m_X7_250 rfl dX7_judgeCode_117 ?_
              refine x_iadd X dX7_judgeCode_120 ?_
              obtain ⟨q23, e23, h⟩ := bd h
              refine x_callI X [.int 26, .int ((u 10 0) + (u 16 0))] [] (c_X7_fail K.l K.D g 26 ((u 10 0) + (u 16 0)) u q23 e23) ok_X7_fail m_X7_89 0 rfl rfl rfl rfl (Nat.le_of_ble_eq_true rfl) ⟨Nat.zero_le _, Nat.zero_le _⟩ ⟨rfl, rfl, by decide, by decide⟩ dX7_judgeCode_121 ?_
              refine x_pop X dX7_judgeCode_124 rfl ?_
              refine x_sub [1] rfl ?_
              exact w_X7_judgeCode_j125 ret X q23.2 h
  · replace h := if_f c10 h
    exact x_vret X (Option.some.inj h) dX7_judgeCode_64
set_option maxRecDepth 100000 in
set_option maxHeartbeats 4000000 in
theorem c_X7_judgeCode (l : Launch) (D : va_G) (g : Gw) (u : St) (ret : St) (h : f_X7_judgeCode u = some ret) : metV l D g (wdM g) yX7_judgeCode cX7_judgeCode 3 rm_X7_judgeCode [.ref (g.1 0)] u ret := by
  refine metV_of (own := RX7) (lv := [(0, .ref (g.1 0))]) (by decide) rfl rfl (Nat.le_of_ble_eq_true rfl) (fun K hl9 hD9 X => ?_)
  subst hl9
  subst hD9
  unfold f_X7_judgeCode at h
  refine x_aload_n X dX7_judgeCode_0 rfl 0 rfl ?_
  obtain ⟨q1, e1, h⟩ := bd h
  refine x_callV X [] [] (c_X7_walk K.l K.D g u q1 e1) ok_X7_walk m_X7_257 0 rfl rfl rfl rfl (Nat.le_of_ble_eq_true rfl) ⟨Nat.zero_le _, Nat.zero_le _⟩ ⟨rfl, rfl, by decide, by decide⟩ dX7_judgeCode_1 ?_
  refine x_iconst (v := 0) X dX7_judgeCode_4 (by decide) ?_
  refine x_istore_n (lv2 := [(1, .int 0), (0, .ref (g.1 0))]) X dX7_judgeCode_5 rfl (by decide) rfl ?_
  refine x_sub [1, 0] rfl ?_
  obtain ⟨q90, e9, h⟩ := bd h
  refine loopF_w (WH := H_X7_judgeCode_6 K g ret) (KB := E_X7_judgeCode_6 K g ret) (fun a9 r9 h9 k8 k7 => w_X7_judgeCode_b6 ret X a9 r9 h9 k8 k7) FU (0, q1) q90 e9 ?_
  rcases q90 with q9 | q9
  · replace h := sl h
    exact (Option.some.inj h)
  · replace h := sr h
    show XW K 0 0 3 (QV K g (wdM g) ret) (wdM g) q9 57 [(0, .ref (g.1 0))] []
    exact w_X7_judgeCode_j57 ret X q9 h
set_option maxRecDepth 100000 in
set_option maxHeartbeats 4000000 in
theorem w_X7_readCode_j188 {K : Cx} {g : Gw} (ret : St) (X : XC K g cX7_readCode 7 RX7 none rm_X7_readCode) (u : St) (h : f_X7_readCode_j188 u = some ret) : XW K 0 0 7 (QV K g (wdM g) ret) (wdM g) u 188 [(0, .ref (g.1 0))] [] := by
  unfold f_X7_readCode_j188 at h
  refine x_aload_n X dX7_readCode_188 rfl 0 rfl ?_
  refine x_get (v := .int (u 7 0)) X 0 9 in_X7 rfl rfl (by decide) m_X7_71 rfl dX7_readCode_189 ?_
  refine x_if_eq (tgt := 196) X dX7_readCode_192 (by decide) (fun c11 => ?_) (fun c11 => ?_)
  · replace h := if_t c11 h
    refine x_aload_n X dX7_readCode_196 rfl 0 rfl ?_
    refine x_get (v := .ref (g.1 3)) X 0 11 in_X7 rfl rfl (by decide) m_X7_16 rfl dX7_readCode_197 ?_
    refine x_iconst (v := 3) X dX7_readCode_200 (by decide) ?_
    refine x_dup2 X dX7_readCode_201 rfl rfl ?_
    obtain ⟨i12, h⟩ := chk_some h
    refine x_iald (f := (u 32)) X 3 0 rfl rfl i12 dX7_readCode_202 ?_
    refine x_aload_n X dX7_readCode_203 rfl 0 rfl ?_
    refine x_get (v := .int (u 15 0)) X 0 26 in_X7 rfl rfl (by decide) m_X7_226 rfl dX7_readCode_204 ?_
    refine x_iadd X dX7_readCode_207 ?_
    obtain ⟨i13, h⟩ := chk_some h
    refine x_iast (f := (u 32)) (u2 := (up u 32 (Int32.toNatClampNeg 3) (((u 32) (Int32.toNatClampNeg 3)) + (u 15 0)))) X 3 0 rfl rfl i13 (wdM_32 g u (Int32.toNatClampNeg 3) (((u 32) (Int32.toNatClampNeg 3)) + (u 15 0))) dX7_readCode_208 ?_
    refine x_aload_n X dX7_readCode_209 rfl 0 rfl ?_
    refine x_get (v := .ref (g.1 3)) X 0 11 in_X7 rfl rfl (by decide) m_X7_16 rfl dX7_readCode_210 ?_
    refine x_iconst (v := 4) X dX7_readCode_213 (by decide) ?_
    refine x_dup2 X dX7_readCode_214 rfl rfl ?_
    obtain ⟨i14, h⟩ := chk_some h
    refine x_iald (f := ((up u 32 (Int32.toNatClampNeg 3) (((u 32) (Int32.toNatClampNeg 3)) + (u 15 0))) 32)) X 3 0 rfl rfl i14 dX7_readCode_215 ?_
    refine x_aload_n X dX7_readCode_216 rfl 0 rfl ?_
    refine x_get (v := .int (u 14 0)) X 0 25 in_X7 rfl rfl (by decide) m_X7_212 rfl dX7_readCode_217 ?_
    refine x_iadd X dX7_readCode_220 ?_
    obtain ⟨i15, h⟩ := chk_some h
    refine x_iast (f := ((up u 32 (Int32.toNatClampNeg 3) (((u 32) (Int32.toNatClampNeg 3)) + (u 15 0))) 32)) (u2 := (up (up u 32 (Int32.toNatClampNeg 3) (((u 32) (Int32.toNatClampNeg 3)) + (u 15 0))) 32 (Int32.toNatClampNeg 4) ((((up u 32 (Int32.toNatClampNeg 3) (((u 32) (Int32.toNatClampNeg 3)) + (u 15 0))) 32) (Int32.toNatClampNeg 4)) + (u 14 0)))) X 3 0 rfl rfl i15 (wdM_32 g (up u 32 (Int32.toNatClampNeg 3) (((u 32) (Int32.toNatClampNeg 3)) + (u 15 0))) (Int32.toNatClampNeg 4) ((((up u 32 (Int32.toNatClampNeg 3) (((u 32) (Int32.toNatClampNeg 3)) + (u 15 0))) 32) (Int32.toNatClampNeg 4)) + (u 14 0))) dX7_readCode_221 ?_
    exact x_vret X (Option.some.inj h) dX7_readCode_222
  · replace h := if_f c11 h
    exact x_vret X (Option.some.inj h) dX7_readCode_195
set_option maxRecDepth 100000 in
set_option maxHeartbeats 4000000 in
theorem w_X7_readCode_j156 {K : Cx} {g : Gw} (ret : St) (X : XC K g cX7_readCode 7 RX7 none rm_X7_readCode) (u : St) (h : f_X7_readCode_j156 u = some ret) : XW K 0 0 7 (QV K g (wdM g) ret) (wdM g) u 156 [(0, .ref (g.1 0))] [] := by
  unfold f_X7_readCode_j156 at h
  refine x_aload_n X dX7_readCode_156 rfl 0 rfl ?_
  refine x_aload_n X dX7_readCode_157 rfl 0 rfl ?_
  refine x_get (v := .int (u 0 0)) X 0 1 in_X7 rfl rfl (by decide) m_X7_59 rfl dX7_readCode_158 ?_
  refine x_put (ty := .int) (u2 := (up u 4 0 (u 0 0))) X 0 6 in_X7 tk_X7 nk_X7 rfl rfl (by decide) m_X7_80 rfl rfl rfl rfl (Nat.le_of_ble_eq_true rfl) (wdM_4 g u (u 0 0)) dX7_readCode_161 ?_
  refine x_aload_n X dX7_readCode_164 rfl 0 rfl ?_
  refine x_iconst (v := 1) X dX7_readCode_165 (by decide) ?_
  refine x_put (ty := .int) (u2 := (up (up u 4 0 (u 0 0)) 5 0 1)) X 0 7 in_X7 tk_X7 nk_X7 rfl rfl (by decide) m_X7_83 rfl rfl rfl rfl (Nat.le_of_ble_eq_true rfl) (wdM_5 g (up u 4 0 (u 0 0)) 1) dX7_readCode_166 ?_
  refine x_aload_n X dX7_readCode_169 rfl 0 rfl ?_
  refine x_aload_n X dX7_readCode_170 rfl 0 rfl ?_
  refine x_get (v := .int (u 0 0)) X 0 1 in_X7 rfl rfl (by decide) m_X7_59 rfl dX7_readCode_171 ?_
  refine x_put (ty := .int) (u2 := (up (up (up u 4 0 (u 0 0)) 5 0 1) 6 0 (u 0 0))) X 0 8 in_X7 tk_X7 nk_X7 rfl rfl (by decide) m_X7_86 rfl rfl rfl rfl (Nat.le_of_ble_eq_true rfl) (wdM_6 g (up (up u 4 0 (u 0 0)) 5 0 1) (u 0 0)) dX7_readCode_174 ?_
  refine x_aload_n X dX7_readCode_177 rfl 0 rfl ?_
  refine x_get (v := .int (u 7 0)) X 0 9 in_X7 rfl rfl (by decide) m_X7_71 rfl dX7_readCode_178 ?_
  refine x_if_ne (tgt := 188) X dX7_readCode_181 (by decide) (fun c10 => ?_) (fun c10 => ?_)
  · replace h := if_f c10 h
    exact w_X7_readCode_j188 ret X (up (up (up u 4 0 (u 0 0)) 5 0 1) 6 0 (u 0 0)) h
  · replace h := if_t c10 h
    refine x_aload_n X dX7_readCode_184 rfl 0 rfl ?_
    obtain ⟨q16, e16, h⟩ := bd h
    refine x_callV X [] [] (c_X7_judgeCode K.l K.D g (up (up (up u 4 0 (u 0 0)) 5 0 1) 6 0 (u 0 0)) q16 e16) ok_X7_judgeCode m_X7_223 0 rfl rfl rfl rfl (Nat.le_of_ble_eq_true rfl) ⟨Nat.zero_le _, Nat.zero_le _⟩ ⟨rfl, rfl, by decide, by decide⟩ dX7_readCode_185 ?_
    exact w_X7_readCode_j188 ret X q16 h
set_option maxRecDepth 100000 in
set_option maxHeartbeats 4000000 in
theorem w_X7_readCode_j79 {K : Cx} {g : Gw} (ret : St) (X : XC K g cX7_readCode 7 RX7 none rm_X7_readCode) (x2 : Int32) (x3 : Int32) (x5 : Int64) (u : St) (h : f_X7_readCode_j79 x2 x3 x5 u = some ret) : XW K 0 0 7 (QV K g (wdM g) ret) (wdM g) u 79 [(0, .ref (g.1 0)), (2, .int x2), (3, .int x3), (5, .long x5)] [] := by
  unfold f_X7_readCode_j79 at h
  refine x_aload_n X dX7_readCode_79 rfl 0 rfl ?_
  refine x_lload X dX7_readCode_80 3 rfl ?_
  refine x_l2i X dX7_readCode_82 ?_
  refine x_put (ty := .int) (u2 := (up u 11 0 (x5.toInt32))) X 0 22 in_X7 tk_X7 nk_X7 rfl rfl (by decide) m_X7_206 rfl rfl rfl rfl (Nat.le_of_ble_eq_true rfl) (wdM_11 g u (x5.toInt32)) dX7_readCode_83 ?_
  refine x_aload_n X dX7_readCode_86 rfl 0 rfl ?_
  refine x_aload_n X dX7_readCode_87 rfl 0 rfl ?_
  refine x_get (v := .int (u 3 0)) X 0 5 in_X7 rfl rfl (by decide) m_X7_77 rfl dX7_readCode_88 ?_
  refine x_put (ty := .int) (u2 := (up (up u 11 0 (x5.toInt32)) 10 0 (u 3 0))) X 0 21 in_X7 tk_X7 nk_X7 rfl rfl (by decide) m_X7_209 rfl rfl rfl rfl (Nat.le_of_ble_eq_true rfl) (wdM_10 g (up u 11 0 (x5.toInt32)) (u 3 0)) dX7_readCode_91 ?_
  refine x_aload_n X dX7_readCode_94 rfl 0 rfl ?_
  refine x_lload X dX7_readCode_95 3 rfl ?_
  obtain ⟨q5, e5, h⟩ := bd h
  refine x_callV X [.long x5] [] (c_X7_skip K.l K.D g x5 (up (up u 11 0 (x5.toInt32)) 10 0 (u 3 0)) q5 e5) ok_X7_skip m_X7_133 0 rfl rfl rfl rfl (Nat.le_of_ble_eq_true rfl) ⟨Nat.zero_le _, Nat.zero_le _⟩ ⟨rfl, rfl, by decide, by decide⟩ dX7_readCode_97 ?_
  refine x_aload_n X dX7_readCode_100 rfl 0 rfl ?_
  refine x_aload_n X dX7_readCode_101 rfl 0 rfl ?_
  obtain ⟨q6, e6, h⟩ := bd h
  refine x_callI X [] [.ref (g.1 0)] (c_X7_u2 K.l K.D g q5 q6 e6) ok_X7_u2 m_X7_130 0 rfl rfl rfl rfl (Nat.le_of_ble_eq_true rfl) ⟨Nat.zero_le _, Nat.zero_le _⟩ ⟨rfl, rfl, by decide, by decide⟩ dX7_readCode_102 ?_
  refine x_put (ty := .int) (u2 := (up q6.2 14 0 q6.1)) X 0 25 in_X7 tk_X7 nk_X7 rfl rfl (by decide) m_X7_212 rfl rfl rfl rfl (Nat.le_of_ble_eq_true rfl) (wdM_14 g q6.2 q6.1) dX7_readCode_105 ?_
  refine x_aload_n X dX7_readCode_108 rfl 0 rfl ?_
  refine x_aload_n X dX7_readCode_109 rfl 0 rfl ?_
  refine x_get (v := .int (q6.2 3 0)) X 0 5 in_X7 rfl rfl (by decide) m_X7_77 rfl dX7_readCode_110 ?_
  refine x_put (ty := .int) (u2 := (up (up q6.2 14 0 q6.1) 13 0 (q6.2 3 0))) X 0 24 in_X7 tk_X7 nk_X7 rfl rfl (by decide) m_X7_215 rfl rfl rfl rfl (Nat.le_of_ble_eq_true rfl) (wdM_13 g (up q6.2 14 0 q6.1) (q6.2 3 0)) dX7_readCode_113 ?_
  refine x_aload_n X dX7_readCode_116 rfl 0 rfl ?_
  refine x_ldc2 (v := 8) X m_X7_218 dX7_readCode_117 ?_
  refine x_aload_n X dX7_readCode_120 rfl 0 rfl ?_
  refine x_get (v := .int q6.1) X 0 25 in_X7 rfl rfl (by decide) m_X7_212 rfl dX7_readCode_121 ?_
  refine x_i2l X dX7_readCode_124 ?_
  refine x_lmul X dX7_readCode_125 ?_
  obtain ⟨q7, e7, h⟩ := bd h
  refine x_callV X [.long (8 * (q6.1.toInt64))] [] (c_X7_skip K.l K.D g (8 * (q6.1.toInt64)) (up (up q6.2 14 0 q6.1) 13 0 (q6.2 3 0)) q7 e7) ok_X7_skip m_X7_133 0 rfl rfl rfl rfl (Nat.le_of_ble_eq_true rfl) ⟨Nat.zero_le _, Nat.zero_le _⟩ ⟨rfl, rfl, by decide, by decide⟩ dX7_readCode_126 ?_
  refine x_aload_n X dX7_readCode_129 rfl 0 rfl ?_
  obtain ⟨q8, e8, h⟩ := bd h
  refine x_callV X [] [] (c_X7_attributes K.l K.D g q7 q8 e8) ok_X7_attributes m_X7_220 0 rfl rfl rfl rfl (Nat.le_of_ble_eq_true rfl) ⟨Nat.zero_le _, Nat.zero_le _⟩ ⟨rfl, rfl, by decide, by decide⟩ dX7_readCode_130 ?_
  refine x_aload_n X dX7_readCode_133 rfl 0 rfl ?_
  refine x_get (v := .int (q8 7 0)) X 0 9 in_X7 rfl rfl (by decide) m_X7_71 rfl dX7_readCode_134 ?_
  refine x_if_ne (tgt := 156) X dX7_readCode_137 (by decide) (fun c9 => ?_) (fun c9 => ?_)
  · replace h := if_f c9 h
    refine x_sub [0] rfl ?_
    exact w_X7_readCode_j156 ret X q8 h
  · replace h := if_t c9 h
    refine x_aload_n X dX7_readCode_140 rfl 0 rfl ?_
    refine x_get (v := .int (q8 3 0)) X 0 5 in_X7 rfl rfl (by decide) m_X7_77 rfl dX7_readCode_141 ?_
    refine x_iload_n X dX7_readCode_144 rfl 1 rfl ?_
    refine x_icmp_eq (tgt := 156) X dX7_readCode_145 (by decide) (fun c17 => ?_) (fun c17 => ?_)
    · replace h := if_t c17 h
      refine x_sub [0] rfl ?_
      exact w_X7_readCode_j156 ret X q8 h
    · replace h := if_f c17 h
      refine x_aload_n X dX7_readCode_148 rfl 0 rfl ?_
      refine x_bipush (v := 20) X dX7_readCode_149 (by decide) ?_
      refine x_iload_n X dX7_readCode_151 rfl 2 rfl ?_
      obtain ⟨q18, e18, h⟩ := bd h
      refine x_callI X [.int 20, .int x3] [] (c_X7_fail K.l K.D g 20 x3 q8 q18 e18) ok_X7_fail m_X7_89 0 rfl rfl rfl rfl (Nat.le_of_ble_eq_true rfl) ⟨Nat.zero_le _, Nat.zero_le _⟩ ⟨rfl, rfl, by decide, by decide⟩ dX7_readCode_152 ?_
      refine x_pop X dX7_readCode_155 rfl ?_
      refine x_sub [0] rfl ?_
      exact w_X7_readCode_j156 ret X q18.2 h
set_option maxRecDepth 100000 in
set_option maxHeartbeats 4000000 in
theorem w_X7_readCode_j70 {K : Cx} {g : Gw} (ret : St) (X : XC K g cX7_readCode 7 RX7 none rm_X7_readCode) (x2 : Int32) (x3 : Int32) (x4 : Int32) (x5 : Int64) (u : St) (h : f_X7_readCode_j70 x2 x3 x4 x5 u = some ret) : XW K 0 0 7 (QV K g (wdM g) ret) (wdM g) u 70 [(0, .ref (g.1 0)), (2, .int x2), (3, .int x3), (4, .int x4), (5, .long x5)] [] := by
  unfold f_X7_readCode_j70 at h
  refine x_aload_n X dX7_readCode_70 rfl 0 rfl ?_
  refine x_bipush (v := 22) X dX7_readCode_71 (by decide) ?_
  refine x_iload X dX7_readCode_73 3 rfl ?_
  obtain ⟨q20, e20, h⟩ := bd h
  refine x_callI X [.int 22, .int x4] [] (c_X7_fail K.l K.D g 22 x4 u q20 e20) ok_X7_fail m_X7_89 0 rfl rfl rfl rfl (Nat.le_of_ble_eq_true rfl) ⟨Nat.zero_le _, Nat.zero_le _⟩ ⟨rfl, rfl, by decide, by decide⟩ dX7_readCode_75 ?_
  refine x_pop X dX7_readCode_78 rfl ?_
  refine x_sub [0, 1, 2, 4] rfl ?_
  exact w_X7_readCode_j79 ret X x2 x3 x5 q20.2 h
set_option maxRecDepth 100000 in
set_option maxHeartbeats 4000000 in
theorem c_X7_readCode (l : Launch) (D : va_G) (g : Gw) (p0 : Int32) (p1 : Int32) (p2 : Int32) (u : St) (ret : St) (h : f_X7_readCode p0 p1 p2 u = some ret) : metV l D g (wdM g) yX7_readCode cX7_readCode 7 rm_X7_readCode [.ref (g.1 0), .int p0, .int p1, .int p2] u ret := by
  refine metV_of (own := RX7) (lv := [(0, .ref (g.1 0)), (1, .int p0), (2, .int p1), (3, .int p2)]) (by decide) rfl rfl (Nat.le_of_ble_eq_true rfl) (fun K hl9 hD9 X => ?_)
  subst hl9
  subst hD9
  unfold f_X7_readCode at h
  refine x_aload_n X dX7_readCode_0 rfl 0 rfl ?_
  refine x_iload_n X dX7_readCode_1 rfl 2 rfl ?_
  refine x_put (ty := .int) (u2 := (up u 4 0 p1)) X 0 6 in_X7 tk_X7 nk_X7 rfl rfl (by decide) m_X7_80 rfl rfl rfl rfl (Nat.le_of_ble_eq_true rfl) (wdM_4 g u p1) dX7_readCode_2 ?_
  refine x_aload_n X dX7_readCode_5 rfl 0 rfl ?_
  refine x_bipush (v := 20) X dX7_readCode_6 (by decide) ?_
  refine x_put (ty := .int) (u2 := (up (up u 4 0 p1) 5 0 20)) X 0 7 in_X7 tk_X7 nk_X7 rfl rfl (by decide) m_X7_83 rfl rfl rfl rfl (Nat.le_of_ble_eq_true rfl) (wdM_5 g (up u 4 0 p1) 20) dX7_readCode_8 ?_
  refine x_aload_n X dX7_readCode_11 rfl 0 rfl ?_
  refine x_iload_n X dX7_readCode_12 rfl 3 rfl ?_
  refine x_put (ty := .int) (u2 := (up (up (up u 4 0 p1) 5 0 20) 6 0 p2)) X 0 8 in_X7 tk_X7 nk_X7 rfl rfl (by decide) m_X7_86 rfl rfl rfl rfl (Nat.le_of_ble_eq_true rfl) (wdM_6 g (up (up u 4 0 p1) 5 0 20) p2) dX7_readCode_13 ?_
  refine x_aload_n X dX7_readCode_16 rfl 0 rfl ?_
  refine x_iload_n X dX7_readCode_17 rfl 1 rfl ?_
  refine x_put (ty := .int) (u2 := (up (up (up (up u 4 0 p1) 5 0 20) 6 0 p2) 3 0 p0)) X 0 5 in_X7 tk_X7 nk_X7 rfl rfl (by decide) m_X7_77 rfl rfl rfl rfl (Nat.le_of_ble_eq_true rfl) (wdM_3 g (up (up (up u 4 0 p1) 5 0 20) 6 0 p2) p0) dX7_readCode_18 ?_
  refine x_aload_n X dX7_readCode_21 rfl 0 rfl ?_
  obtain ⟨q1, e1, h⟩ := bd h
  refine x_callI X [] [] (c_X7_u2 K.l K.D g (up (up (up (up u 4 0 p1) 5 0 20) 6 0 p2) 3 0 p0) q1 e1) ok_X7_u2 m_X7_130 0 rfl rfl rfl rfl (Nat.le_of_ble_eq_true rfl) ⟨Nat.zero_le _, Nat.zero_le _⟩ ⟨rfl, rfl, by decide, by decide⟩ dX7_readCode_22 ?_
  refine x_pop X dX7_readCode_25 rfl ?_
  refine x_aload_n X dX7_readCode_26 rfl 0 rfl ?_
  refine x_aload_n X dX7_readCode_27 rfl 0 rfl ?_
  obtain ⟨q2, e2, h⟩ := bd h
  refine x_callI X [] [.ref (g.1 0)] (c_X7_u2 K.l K.D g q1.2 q2 e2) ok_X7_u2 m_X7_130 0 rfl rfl rfl rfl (Nat.le_of_ble_eq_true rfl) ⟨Nat.zero_le _, Nat.zero_le _⟩ ⟨rfl, rfl, by decide, by decide⟩ dX7_readCode_28 ?_
  refine x_put (ty := .int) (u2 := (up q2.2 12 0 q2.1)) X 0 23 in_X7 tk_X7 nk_X7 rfl rfl (by decide) m_X7_201 rfl rfl rfl rfl (Nat.le_of_ble_eq_true rfl) (wdM_12 g q2.2 q2.1) dX7_readCode_31 ?_
  refine x_aload_n X dX7_readCode_34 rfl 0 rfl ?_
  refine x_get (v := .int (q2.2 3 0)) X 0 5 in_X7 rfl rfl (by decide) m_X7_77 rfl dX7_readCode_35 ?_
  refine x_istore (lv2 := [(4, .int (q2.2 3 0)), (0, .ref (g.1 0)), (1, .int p0), (2, .int p1), (3, .int p2)]) X dX7_readCode_38 (by decide) rfl ?_
  refine x_aload_n X dX7_readCode_40 rfl 1 rfl ?_
  refine x_iconst (v := 4) X dX7_readCode_41 (by decide) ?_
  obtain ⟨q3, e3, h⟩ := bd h
  refine x_callL X [.int 4] [] (c_X7_u K.l K.D g 4 (up q2.2 12 0 q2.1) q3 e3) ok_X7_u m_X7_94 0 rfl rfl rfl rfl (Nat.le_of_ble_eq_true rfl) ⟨Nat.zero_le _, Nat.zero_le _⟩ ⟨rfl, rfl, by decide, by decide⟩ dX7_readCode_42 ?_
  refine x_lstore (lv2 := [(5, .long q3.1), (4, .int (q2.2 3 0)), (0, .ref (g.1 0)), (1, .int p0), (2, .int p1), (3, .int p2)]) X dX7_readCode_45 (by decide) rfl ?_
  refine x_aload_n X dX7_readCode_47 rfl 2 rfl ?_
  refine x_get (v := .int (q3.2 7 0)) X 0 9 in_X7 rfl rfl (by decide) m_X7_71 rfl dX7_readCode_48 ?_
  refine x_if_ne (tgt := 79) X dX7_readCode_51 (by decide) (fun c4 => ?_) (fun c4 => ?_)
  · replace h := if_f c4 h
    refine x_sub [2, 4, 5, 0] rfl ?_
    exact w_X7_readCode_j79 ret X p1 p2 q3.1 q3.2 h
  · replace h := if_t c4 h
    refine x_lload X dX7_readCode_54 0 rfl ?_
    refine x_lconst (v := 1) X dX7_readCode_56 (by decide) ?_
    refine x_lcmp X dX7_readCode_57 ?_
    refine x_if_lt (tgt := 70) X dX7_readCode_58 (by decide) (fun c19 => ?_) (fun c19 => ?_)
    · replace h := if_t c19 h
      refine x_sub [2, 4, 5, 1, 0] rfl ?_
      exact w_X7_readCode_j70 ret X p1 p2 (q2.2 3 0) q3.1 q3.2 h
    · replace h := if_f c19 h
      refine x_lload X dX7_readCode_61 0 rfl ?_
      refine x_ldc2 (v := 64) X m_X7_204 dX7_readCode_63 ?_
      refine x_lcmp X dX7_readCode_66 ?_
      refine x_if_le (tgt := 79) X dX7_readCode_67 (by decide) (fun c21 => ?_) (fun c21 => ?_)
      · replace h := if_t c21 h
        refine x_sub [2, 4, 5, 0] rfl ?_
        exact w_X7_readCode_j79 ret X p1 p2 q3.1 q3.2 h
      · replace h := if_f c21 h
        refine x_sub [2, 4, 5, 1, 0] rfl ?_
        exact w_X7_readCode_j70 ret X p1 p2 (q2.2 3 0) q3.1 q3.2 h
abbrev H_X7_spells_a14_15 (x1 : Int32) (K : Cx) (g : Gw) (u : St) (ret : Int32) (a : Int32) : Prop := XW K 0 0 4 (QI K g (wdM g) (ret, u)) (wdM g) u 15 [(0, .ref (g.1 0)), (1, .int x1), (2, .ref (g.1 14)), (3, .int a)] []
abbrev E_X7_spells_a14_15 (x1 : Int32) (K : Cx) (g : Gw) (u : St) (ret : Int32) (q : (Int32) ⊕ (Unit)) : Prop := Sum.elim (fun q => q = ret) (fun q => XW K 0 0 4 (QI K g (wdM g) (ret, u)) (wdM g) u 41 [] []) q
set_option maxRecDepth 100000 in
set_option maxHeartbeats 4000000 in
theorem w_X7_spells_a14_b15 {K : Cx} {g : Gw} (x1 : Int32) (u : St) (ret : Int32) (X : XC K g cX7_spells 4 RX7 (some .boolean) rm_X7_spells) (a : Int32) (r : ((Int32) ⊕ (Unit)) ⊕ (Int32)) (h : f_X7_spells_a14_b15 x1 u a = some r) (k0 : ∀ q, r = .inl q → E_X7_spells_a14_15 x1 K g u ret q) (k1 : ∀ q, r = .inr q → H_X7_spells_a14_15 x1 K g u ret q) : H_X7_spells_a14_15 x1 K g u ret a := by
  unfold f_X7_spells_a14_b15 at h
  show XW K 0 0 4 (QI K g (wdM g) (ret, u)) (wdM g) u 15 [(0, .ref (g.1 0)), (1, .int x1), (2, .ref (g.1 14)), (3, .int a)] []
  refine x_iload_n X dX7_spells_15 rfl 3 rfl ?_
  refine x_aload_n X dX7_spells_16 rfl 2 rfl ?_
  refine x_alen (v := 4) X 14 0 rfl rfl rfl dX7_spells_17 ?_
  refine x_icmp_ge (tgt := 41) X dX7_spells_18 (by decide) (fun c3 => ?_) (fun c3 => ?_)
  · replace h := if_t c3 h
    refine x_sub [] rfl ?_
    have h9 := k0 _ (Option.some.inj h).symm
    exact h9
  · replace h := if_f c3 h
    refine x_aload_n X dX7_spells_21 rfl 0 rfl ?_
    refine x_iload_n X dX7_spells_22 rfl 1 rfl ?_
    refine x_iload_n X dX7_spells_23 rfl 3 rfl ?_
    obtain ⟨q4, e4, h⟩ := bd h
    refine x_callR X [.int x1, .int a] [] (c_X7_letter K.l K.D g x1 a u q4 e4) ok_X7_letter m_X7_101 0 rfl rfl rfl rfl (Nat.le_of_ble_eq_true rfl) ⟨Nat.zero_le _, Nat.zero_le _⟩ ⟨rfl, rfl, by decide, by decide⟩ dX7_spells_24 ?_
    refine x_aload_n X dX7_spells_27 rfl 2 rfl ?_
    refine x_iload_n X dX7_spells_28 rfl 3 rfl ?_
    obtain ⟨i5, h⟩ := chk_some h
    refine x_iald (f := (u 43)) X 14 0 rfl rfl i5 dX7_spells_29 ?_
    refine x_icmp_eq (tgt := 35) X dX7_spells_30 (by decide) (fun c6 => ?_) (fun c6 => ?_)
    · replace h := if_t c6 h
      refine x_iinc (v := (a + 1)) (lv2 := [(3, .int (a + 1)), (0, .ref (g.1 0)), (1, .int x1), (2, .ref (g.1 14))]) X dX7_spells_35 3 rfl rfl (by decide) rfl ?_
      refine x_goto (tgt := 15) X dX7_spells_38 (by decide) ?_
      refine x_sub [1, 2, 3, 0] rfl ?_
      have h9 := k1 _ (Option.some.inj h).symm
      exact h9
    · replace h := if_f c6 h
      refine x_iconst (v := 0) X dX7_spells_33 (by decide) ?_
      exact x_zret X rfl (roE (k0 _ (Option.some.inj h).symm)) dX7_spells_34
set_option maxRecDepth 100000 in
set_option maxHeartbeats 4000000 in
theorem c_X7_spells_a14 (l : Launch) (D : va_G) (g : Gw) (p0 : Int32) (u : St) (ret : Int32) (h : f_X7_spells_a14 p0 u = some ret) : metI l D g (wdM g) yX7_spells cX7_spells 4 .boolean rm_X7_spells [.ref (g.1 0), .int p0, .ref (g.1 14)] u (ret, u) := by
  refine metI_of (own := RX7) (lv := [(0, .ref (g.1 0)), (1, .int p0), (2, .ref (g.1 14))]) (by decide) rfl rfl (Nat.le_of_ble_eq_true rfl) (fun K hl9 hD9 X => ?_)
  subst hl9
  subst hD9
  unfold f_X7_spells_a14 at h
  refine x_aload_n X dX7_spells_0 rfl 0 rfl ?_
  refine x_get (v := .ref (g.1 7)) X 0 15 in_X7 rfl rfl (by decide) m_X7_28 rfl dX7_spells_1 ?_
  refine x_iload_n X dX7_spells_4 rfl 1 rfl ?_
  obtain ⟨i1, h⟩ := chk_some h
  refine x_iald (f := (u 36)) X 7 0 rfl rfl i1 dX7_spells_5 ?_
  refine x_aload_n X dX7_spells_6 rfl 2 rfl ?_
  refine x_alen (v := 4) X 14 0 rfl rfl rfl dX7_spells_7 ?_
  refine x_icmp_eq (tgt := 13) X dX7_spells_8 (by decide) (fun c2 => ?_) (fun c2 => ?_)
  · replace h := if_t c2 h
    refine x_iconst (v := 0) X dX7_spells_13 (by decide) ?_
    refine x_istore_n (lv2 := [(3, .int 0), (0, .ref (g.1 0)), (1, .int p0), (2, .ref (g.1 14))]) X dX7_spells_14 rfl (by decide) rfl ?_
    refine x_sub [1, 2, 3, 0] rfl ?_
    obtain ⟨q70, e7, h⟩ := bd h
    refine loopF_w (WH := H_X7_spells_a14_15 p0 K g u ret) (KB := E_X7_spells_a14_15 p0 K g u ret) (fun a9 r9 h9 k8 k7 => w_X7_spells_a14_b15 p0 u ret X a9 r9 h9 k8 k7) FU 0 q70 e7 ?_
    rcases q70 with q7 | q7
    · replace h := sl h
      exact (Option.some.inj h)
    · replace h := sr h
      show XW K 0 0 4 (QI K g (wdM g) (ret, u)) (wdM g) u 41 [] []
      refine x_iconst (v := 1) X dX7_spells_41 (by decide) ?_
      exact x_zret X rfl (roE (Option.some.inj h)) dX7_spells_42
  · replace h := if_f c2 h
    refine x_iconst (v := 0) X dX7_spells_11 (by decide) ?_
    exact x_zret X rfl (roE (Option.some.inj h)) dX7_spells_12
